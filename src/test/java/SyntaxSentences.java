/** The term Text, sentence by sentence. */
final class SyntaxSentences {
    private static final String DIGITS = "0123456789";
    private static final String TO_7 = "01234567";

    /** An order, and for each of its bytes all those that can stand there. */
    private static final String[][] ORDERS = {
        {"p12@345;", "plesd", DIGITS, TO_7, "@", DIGITS, DIGITS + ";", DIGITS + ";", ";"},
        {"l1+23;", "plesd", DIGITS, "+", DIGITS, DIGITS + ";", ";"},
        {"e1+23;", "plesd", TO_7, "+", DIGITS, DIGITS + ";", ";"},
        {"s12:345-678,91;", "plesd", DIGITS, TO_7, ":", DIGITS, DIGITS + "-", DIGITS + "-", "-", DIGITS, DIGITS + ",",
            DIGITS + ",", ",", DIGITS, DIGITS + ";", ";"},
        {"d12;", "plesd", DIGITS, DIGITS + ";", ";"},
    };

    /** The beginnings of orders up to a number that is at least 1. */
    private static final String[] FROM_ONE = {"l0+", "e0+", "s00:0-1,"};

    static void tell(Sentences s) {
        s.term("Text");
        length(s);
        orders(s);
        edgesOfOrders(s);
        spaces(s);
        zeros(s);
        position(s);
        tooManyDigits(s);
        tooEarly(s);
        outOfRange(s);
    }

    private static int answer(String text) {
        return TextSentences.texted(Calendars::full, text).carryOut();
    }

    private static void error(Sentences s, String text, int position) {
        s.equal("carryOut of " + text, answer(text), -10 - position);
        String before = "d0;e0+1;";
        if (text.length() + before.length() <= 100) {
            s.equal("carryOut of " + before + text, answer(before + text), -18 - position);
        }
    }

    private static void good(Sentences s, String text) {
        s.equal("no syntax error in " + text, answer(text) >= 0 ? 1 : 0, 1);
    }

    private static void length(Sentences s) {
        s.says("The text has at most 100 bytes");
        s.equal("100 bytes", TextSentences.texted(SunsetDates::new, "d0;".repeat(33) + "x").clearText(), 100);
        s.equal("the last one counts", answer("d0;".repeat(33) + "x"), -109);
        s.untouched("one more", () -> TextSentences.texted(Calendars::full, "e0+1;".repeat(20)), y -> y.append(';'));
    }

    private static void orders(Sentences s) {
        s.says("It is a sequence of orders, each terminated by a semicolon");
        for (String[] order : ORDERS) {
            for (int at = 0; at < order[0].length(); at++) {
                for (char sign = 0; sign < 128; sign++) {
                    String text = order[0].substring(0, at) + sign;
                    if (order[at + 1].indexOf(sign) < 0) {
                        error(s, text, at);
                        error(s, text + order[0].substring(at + 1), at);
                    } else {
                        s.equal("stands where it stands, the last of " + text, answer(text + "1") == -10 - at ? 1 : 0, 0);
                    }
                }
            }
        }
    }

    private static void edgesOfOrders(Sentences s) {
        SunsetDates x = CalendarSentences.sized(8, 10, 10);
        for (int digit = 0; digit <= 9; digit++) {
            s.equal("user digit", Check.carryOut(x, "p" + digit + "0@5;"), 1);
            s.equal("user", x.user(digit, 3), 5);
            s.equal("user digit of l", Check.carryOut(x, "l" + digit + "+1;"), 1);
            s.equal("its user", x.user(digit, 3), 6);
            s.equal("feature digit", Check.carryOut(x, "s" + digit + "0:0-0,1;"), 1);
            s.equal("feature", x.shim(0, 0), digit);
            s.equal("d", Check.carryOut(x, "d0;"), 1);
        }
        for (int digit = 0; digit <= 7; digit++) {
            s.equal("version digit", Check.carryOut(x, "p0" + digit + "@5;"), 1);
            s.equal("version", x.user(0, 2), digit);
            s.equal("version digit of s", Check.carryOut(x, "s0" + digit + ":0-0,1;"), 1);
            s.equal("its version", x.shim(digit, 1), digit);
            s.equal("version digit of e", Check.carryOut(TextSentences.texted(() -> ended(500), ""), "e" + digit + "+1;"), 1);
        }
        for (int number = 1; number <= 99; number++) {
            SunsetDates y = ended(500);
            y.pledge(0, 0, 0);
            s.equal("numbers", Check.carryOut(y, "l0+" + number + ";e3+" + number + ";s00:0-0," + number + ";"), 3);
            s.equal("slipped", y.user(0, 3), number);
            s.equal("extended", y.version(3, 1), 500 + number);
            s.equal("price", y.shim(0, 4), number);
        }
        for (int day : new int[] {0, 1, 9, 10, 99, 100, 998, 999}) {
            SunsetDates y = ended(500);
            s.equal("days", Check.carryOut(y, "p00@" + day + ";s00:" + day + "-999,1;s00:0-" + day + ",1;"), 3);
            s.equal("day", y.user(0, 3), day);
            s.equal("first day", y.shim(0, 2), day);
            s.equal("last day", y.shim(1, 3), day);
        }
        for (int shim = 0; shim <= 99; shim++) {
            s.equal("dropped", answer("d" + shim + ";"), shim < 12 ? 1 : 0);
        }
        s.equal("a last day that is less than the first one", answer("s00:1-0,1;"), 0);
        s.equal("a last day that is less than the first one, behind other orders", answer("d0;s00:999-0,1;d0;"), 1);
    }

    private static SunsetDates ended(int end) {
        SunsetDates x = new SunsetDates();
        for (int i = 0; i < 8; i++) {
            x.addVersion(0, end);
        }
        x.addFeature(0);
        x.addUser(0, 0);
        return x;
    }

    private static void spaces(Sentences s) {
        s.says("There are no spaces; there may be no orders");
        for (String[] order : ORDERS) {
            for (int at = 0; at <= order[0].length(); at++) {
                error(s, order[0].substring(0, at) + " " + order[0].substring(at), at);
            }
        }
        s.equal("no orders", answer(""), 0);
        error(s, " ", 0);
        error(s, ";", 0);
        error(s, "d0;;", 3);
        error(s, "\n", 0);
    }

    private static void zeros(Sentences s) {
        s.says("Numbers can have zeros in front");
        SunsetDates x = ended(500);
        s.equal("days", Check.carryOut(x, "p00@007;s00:000-009,01;s00:00-01,09;"), 3);
        s.equal("day", x.user(0, 3), 7);
        CalendarSentences.shim(s, "first", x, 0, 0, 0, 0, 9, 1);
        CalendarSentences.shim(s, "second", x, 1, 0, 0, 0, 1, 9);
        s.equal("numbers", Check.carryOut(x, "l0+01;e0+09;d01;d00;"), 4);
        s.equal("slipped", x.user(0, 3), 8);
        s.equal("extended", x.version(0, 1), 509);
        s.equal("shims", x.value(3), 0);
        s.equal("day 012", Check.carryOut(x, "p00@012;"), 1);
        s.equal("not read as octal", x.user(0, 3), 12);
    }

    private static void position(Sentences s) {
        s.says("The syntax error position is the index of the first byte that cannot stand where it stands");
        error(s, "x", 0);
        error(s, "P00@0;", 0);
        error(s, "p/", 1);
        error(s, "p:", 1);
        error(s, "p0/", 2);
        error(s, "p08@0;", 2);
        error(s, "p09@0;", 2);
        error(s, "e8+1;", 1);
        error(s, "e9+1;", 1);
        error(s, "s08:0-0,1;", 2);
        error(s, "s09:0-0,1;", 2);
        error(s, "p00@;", 4);
        error(s, "p00@/", 4);
        error(s, "p00@:", 4);
        error(s, "p00@1:", 5);
        error(s, "l0+;", 3);
        error(s, "l0+-1;", 3);
        error(s, "s00:;", 4);
        error(s, "s00:-", 4);
        error(s, "s00:0,", 5);
        error(s, "s00:0-,", 6);
        error(s, "s00:0-0-", 7);
        error(s, "s00:0-0,;", 8);
        error(s, "d;", 1);
        error(s, "d0,", 2);
        error(s, "d0;x", 3);
        error(s, "d0;d0", 5);
        error(s, "x;p08", 0);
        error(s, "e0+1;p08@0;x", 7);
        error(s, "d0,d", 2);
    }

    private static void tooManyDigits(Sentences s) {
        for (char digit = '0'; digit <= '9'; digit++) {
            error(s, "p00@000" + digit, 7);
            error(s, "p00@999" + digit + ";", 7);
            error(s, "s00:000" + digit, 7);
            error(s, "s00:999" + digit + "-", 7);
            error(s, "s00:0-000" + digit, 9);
            error(s, "s00:0-999" + digit + ",1;", 9);
            error(s, "d00" + digit, 3);
            error(s, "d99" + digit + ";", 3);
            error(s, "p00" + digit, 3);
            error(s, "l00" + digit, 2);
            error(s, "e00" + digit, 2);
            for (String start : FROM_ONE) {
                error(s, start + "00" + digit, start.length() + 2);
                error(s, start + "01" + digit + ";", start.length() + 2);
                error(s, start + "10" + digit, start.length() + 2);
                error(s, start + "99" + digit + ";", start.length() + 2);
            }
        }
    }

    private static void tooEarly(Sentences s) {
        for (String[] order : ORDERS) {
            for (int length = 1; length < order[0].length(); length++) {
                error(s, order[0].substring(0, length), length);
            }
            good(s, order[0]);
        }
        s.equal("just ended", answer("e0+1;".repeat(19) + "e0+1"), -109);
        s.equal("100 bytes that end too early", answer("e0+1;".repeat(19) + "e0+11"), -110);
    }

    private static void outOfRange(Sentences s) {
        s.says("For a number that is out of its range it is the index of its first digit");
        for (String start : FROM_ONE) {
            int first = start.length();
            for (String zero : new String[] {"0", "00"}) {
                error(s, start + zero, first);
                for (char sign = 0; sign < 128; sign++) {
                    if (sign < '0' || sign > '9') {
                        error(s, start + zero + sign, first);
                        error(s, start + zero + sign + "d0;", first);
                    }
                }
            }
            for (char digit = '1'; digit <= '9'; digit++) {
                good(s, start + "0" + digit + ";");
                good(s, start + digit + "0;");
                error(s, start + "0" + digit, first + 2);
                error(s, start + "0" + digit + "x", first + 2);
            }
            s.equal("at the end of 100 bytes, 0", answer(padded(start + "0")), -10 - (100 - 1));
            s.equal("at the end of 100 bytes, 00", answer(padded(start + "00")), -10 - (100 - 2));
        }
        error(s, "e0+1;l0+0;x", 8);
        error(s, "l0+0;l0+00;", 3);
    }

    /** Orders before it, so that the text has 100 bytes. */
    private static String padded(String last) {
        int left = 100 - last.length();
        StringBuilder text = new StringBuilder();
        while (left % 3 != 0) {
            text.append("d00;");
            left -= 4;
        }
        return text.append("d0;".repeat(left / 3)).append(last).toString();
    }

    private SyntaxSentences() { }
}
