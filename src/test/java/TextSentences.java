import java.util.function.Supplier;

/** Promises 27 to 29, sentence by sentence. */
final class TextSentences {
    private static final String NO_DIGITS = "+,-./:;<@";

    static void tell(Sentences s) {
        append(s);
        clearText(s);
        carryOut(s);
        carryOutRefusals(s);
        textStays(s);
        carryOutSaves(s);
        carryOutAnswers(s);
    }

    private static SunsetDates with(Supplier<SunsetDates> made, Check.Call... calls) {
        return CalendarSentences.with(made, calls);
    }

    /** The calendar with this text. */
    static SunsetDates texted(Supplier<SunsetDates> made, String text) {
        return with(made, y -> Check.write(y, text));
    }

    /** A text of so many bytes, all orders of it whole but for the last one. */
    private static String bytes(int length) {
        return "e0+1;".repeat(20).substring(0, length);
    }

    private static void append(Sentences s) {
        s.promise(27);
        s.says("Appends a byte to the text");
        SunsetDates x = Calendars.small();
        String text = "p01@5;";
        for (int i = 0; i < text.length(); i++) {
            s.equal("before byte " + i, x.carryOut(), i == 0 ? 0 : -10 - i);
            x.append(text.charAt(i));
        }
        s.equal("the bytes in their order", x.carryOut(), 1);
        s.equal("what they say", x.user(0, 3), 5);
        s.equal("nothing to undo", Portrait.states(texted(SunsetDates::new, "abc")).size(), 1);
        s.says("`value`: the byte, 0 to 127");
        s.equal("0", new SunsetDates().append(0), 1);
        s.equal("127", new SunsetDates().append(127), 1);
        s.equal("0 is a byte of the text", with(SunsetDates::new, y -> y.append(0)).carryOut(), -10);
        s.equal("127 is a byte of the text", with(() -> texted(SunsetDates::new, "d"), y -> y.append(127)).carryOut(), -11);
        s.refused(Sentences.ARGUMENT, "-1", Calendars::small, y -> y.append(-1));
        s.refused(Sentences.ARGUMENT, "128", Calendars::small, y -> y.append(128));
        s.says("Returns the new length of the text");
        SunsetDates many = new SunsetDates();
        for (int length = 1; length <= 100; length++) {
            s.equal("length", many.append(length), length);
        }
        many.clearText();
        s.equal("length after clearText", many.append('x'), 1);
        s.says("`IllegalArgumentException`");
        for (int bad : new int[] {-1, 128, 256 + 'd', -128, 255, Sentences.MIN, Sentences.MAX}) {
            s.refused(Sentences.ARGUMENT, "value " + bad, Calendars::full, y -> y.append(bad));
            s.untouched("value " + bad, () -> texted(Calendars::full, bytes(100)), y -> y.append(bad));
            s.equal("value " + bad + ", when the text is full", refusal(texted(SunsetDates::new, bytes(100)), bad),
                "IllegalArgumentException");
        }
        s.says("`IllegalStateException`");
        for (int value : new int[] {0, ';', 127}) {
            s.equal("byte 101", refusal(texted(SunsetDates::new, bytes(100)), value), "IllegalStateException");
            s.untouched("byte 101", () -> texted(Calendars::full, bytes(100)), y -> y.append(value));
        }
        s.taken("byte 100", () -> texted(SunsetDates::new, bytes(99)), y -> y.append(0));
        s.taken("after clearText", () -> with(() -> texted(SunsetDates::new, bytes(100)), y -> y.clearText()),
            y -> y.append(0));
    }

    private static String refusal(SunsetDates x, int value) {
        try {
            x.append(value);
        } catch (RuntimeException e) {
            return e.getClass().getSimpleName();
        }
        return "nothing";
    }

    private static void clearText(Sentences s) {
        s.promise(28);
        s.says("Empties the text");
        SunsetDates x = with(() -> texted(Calendars::small, "p01@5;x"), y -> y.clearText());
        s.equal("no order and no error", x.carryOut(), 0);
        s.equal("no pledge", x.value(4), 0);
        Check.write(x, "e0");
        s.equal("the bytes before do not come back", x.carryOut(), -12);
        s.equal("nothing to undo", Portrait.states(with(() -> texted(SunsetDates::new, "x"), y -> y.clearText())).size(), 1);
        s.untouched("clearText of an empty text", Calendars::full, y -> y.clearText());
        s.says("Returns the length that it had");
        for (int length : new int[] {0, 1, 99, 100}) {
            SunsetDates it = texted(SunsetDates::new, bytes(length));
            s.equal("length", it.clearText(), length);
            s.equal("then", it.clearText(), 0);
        }
    }

    /** A user with a pledge up to day 950, a version up to 950, a shim; one version, feature and user more. */
    private static SunsetDates ready() {
        return with(Calendars::small, y -> y.addVersion(0, 950), y -> y.addUser(2, 0), y -> y.pledge(0, 1, 950),
            y -> y.addShim(1, 1, 10, 20, 30));
    }

    private static void carryOut(Sentences s) {
        s.promise(29);
        s.says("Carries out the orders of the text, up to the first one that would throw");
        SunsetDates x = texted(TextSentences::ready, "p12@7;l0+49;e2+50;s01:3-999,99;d0;");
        s.equal("each order", x.carryOut(), 5);
        CalendarSentences.user(s, "pledged", x, 1, 2, 0, 2, 7, 0, 0);
        CalendarSentences.user(s, "slipped", x, 0, 0, 3, 1, 999, 1, 49);
        CalendarSentences.version(s, "extended", x, 2, 0, 1000, 0, 50, 0);
        s.equal("one added, one dropped", x.value(3), 1);
        CalendarSentences.shim(s, "added", x, 0, 0, 1, 3, 999, 99);
        SunsetDates order = texted(TextSentences::ready, "l0+1;p00@9;l0+2;p01@3;");
        s.equal("one after the other", order.carryOut(), 4);
        CalendarSentences.user(s, "one after the other", order, 0, 0, 3, 1, 3, 2, 3);
        SunsetDates top = texted(() -> CalendarSentences.sized(8, 10, 10), "p97@999;l9+1;e7+7;s97:999-999,1;");
        s.equal("the highest numbers", top.carryOut(), 1);
        s.equal("a slip beyond 999 is refused", top.user(9, 3), 999);
        top.clearText();
        Check.write(top, "p97@998;l9+1;e7+7;s97:999-999,1;d0;");
        s.equal("the highest numbers up to the end", top.carryOut(), 5);
        s.equal("the end then", top.version(7, 1), 1000);
    }

    private static void carryOutRefusals(Sentences s) {
        String[] refused = {
            "p20@5;", "p90@5;", "p03@5;", "p07@5;",
            "l2+1;", "l9+1;", "l1+1;", "l0+50;", "l0+99;",
            "e3+1;", "e7+1;", "e2+51;", "e2+99;",
            "s20:0-9,1;", "s90:0-9,1;", "s03:0-9,1;", "s07:0-9,1;", "s00:1-0,1;", "s00:999-998,1;",
            "d1;", "d11;", "d12;", "d99;"};
        for (String bad : refused) {
            String due = Check.state(with(TextSentences::ready, y -> y.extend(1, 1)));
            SunsetDates x = texted(TextSentences::ready, "e1+1;" + bad + "p00@3;e0+1;");
            s.equal("orders carried out before " + bad, x.carryOut(), 1);
            s.equal("the state at " + bad, Check.state(x), due);
            SunsetDates first = texted(TextSentences::ready, bad + "p10@4;");
            s.equal("none before " + bad, first.carryOut(), 0);
            s.equal("the state at " + bad + " alone", Check.state(first), Check.state(ready()));
        }
        String[] good = {"p10@5;", "p02@5;", "l0+49;", "e2+50;", "s10:0-9,1;", "s02:0-9,1;", "s00:1-1,1;", "d0;"};
        for (String it : good) {
            s.equal("orders with " + it, texted(TextSentences::ready, "p10@4;" + it + "p00@3;e0+1;").carryOut(), 4);
        }
        SunsetDates full = texted(Calendars::full, "s00:0-9,1;d0;");
        s.equal("a thirteenth shim", full.carryOut(), 0);
        s.equal("the shims then", full.value(3), 12);
        SunsetDates drops = texted(Calendars::small, "s00:0-9,1;d0;d0;");
        s.equal("a shim that an order before has dropped", drops.carryOut(), 2);
    }

    private static void textStays(Sentences s) {
        s.says("The text stays as it is");
        SunsetDates x = texted(Calendars::small, "e0+1;e1+2;");
        s.equal("once", x.carryOut(), 2);
        s.equal("twice", x.carryOut(), 2);
        s.equal("both ends", x.version(0, 1) * 1000 + x.version(1, 1), 102204);
        s.equal("length", x.clearText(), 10);
        SunsetDates refused = texted(Calendars::small, "e0+1;d0;");
        refused.carryOut();
        s.equal("after a refused order", refused.clearText(), 8);
        SunsetDates wrong = texted(Calendars::small, "e0+1;x");
        wrong.carryOut();
        s.equal("after a syntax error", wrong.carryOut(), -15);
        s.equal("its length", wrong.clearText(), 6);
        SunsetDates longer = texted(Calendars::small, "e0+1;");
        longer.carryOut();
        Check.write(longer, "e1+1;");
        s.equal("more is appended behind it", longer.carryOut(), 2);
    }

    private static void carryOutSaves(Sentences s) {
        s.says("Undoable (one saved state, also if no order is carried out), if there is no syntax error");
        s.undoable("carryOut without a text", Calendars::small, y -> y.carryOut());
        s.equal("states of a new object", Portrait.states(with(SunsetDates::new, y -> y.carryOut())).size(), 2);
        String[] texts = {"e0+1;", "e0+1;e0+2;e1+3;", "d0;", "e0+1;d0;e0+1;", "e0+1;".repeat(20)};
        for (String text : texts) {
            SunsetDates x = texted(Calendars::early, text);
            String before = Check.state(x);
            x.carryOut();
            s.equal("one saved state, " + text, x.undo(), 3);
            s.equal("the state from before, " + text, Check.state(x), before);
            SunsetDates few = texted(() -> with(Calendars::early, y -> y.undo(), y -> y.undo()), text);
            few.carryOut();
            s.equal("one more than the two that there are, " + text, few.undo(), 2);
        }
        for (String wrong : new String[] {"x", "e0+1;x", "e0+1;e0+0;", "e0+1;e0+1"}) {
            s.untouched("saved states at a syntax error, " + wrong, () -> texted(Calendars::early, wrong),
                y -> y.carryOut());
        }
    }

    private static void carryOutAnswers(Sentences s) {
        s.says("Returns the number of orders that are carried out; -10 minus the syntax error position");
        s.equal("no text", new SunsetDates().carryOut(), 0);
        for (int orders = 1; orders <= 20; orders++) {
            s.equal("orders", texted(Calendars::small, "e0+1;".repeat(orders)).carryOut(), orders);
        }
        s.equal("most in 100 bytes", texted(Calendars::full, "d0;".repeat(12) + "e0+1;".repeat(12) + "d0;").carryOut(), 24);
        s.equal("position 0", texted(Calendars::small, "x").carryOut(), -10);
        s.equal("position 1", texted(Calendars::small, "p").carryOut(), -11);
        s.equal("position 99", texted(Calendars::small, "e0+1;".repeat(19) + "e0+1x").carryOut(), -109);
        s.equal("position 100", texted(Calendars::small, "e0+1;".repeat(19) + "e0+12").carryOut(), -110);
        s.equal("position 100, behind a number that is not out of range",
            texted(Calendars::small, "e0+1;".repeat(19) + "e0+01").carryOut(), -110);
        s.equal("position 98, a number that is out of range", texted(Calendars::small, "e0+1;".repeat(19) + "e0+00").carryOut(),
            -108);
        for (char sign : NO_DIGITS.toCharArray()) {
            SunsetDates x = texted(Calendars::early, "e0+1;p00@5;l0+0" + sign);
            String before = Check.state(x);
            s.equal("an error in the last order", x.carryOut(), -24);
            s.equal("then nothing changes, not by the orders before it", Check.state(x), before);
        }
    }

    private TextSentences() { }
}
