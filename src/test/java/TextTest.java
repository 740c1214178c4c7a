/** Promises 27 to 29: the text and its orders. */
final class TextTest {
    private static final Class<IllegalArgumentException> ARGUMENT = IllegalArgumentException.class;
    private static final Class<IllegalStateException> STATE = IllegalStateException.class;
    private static final int MIN = Integer.MIN_VALUE;
    private static final int MAX = Integer.MAX_VALUE;

    private static final Check check = new Check("TextTest");

    public static void main(String[] args) {
        append();
        clearText();
        noOrders();
        eachOrder();
        stopsAtTheFirstRefusal();
        savesOneState();
        syntaxErrors();
        syntaxErrorsOfNumbers();
        longTexts();
        check.finish();
    }

    private static void append() {
        SunsetDates x = new SunsetDates();
        for (int bad : new int[] {-1, 128, MIN, MAX}) {
            check.refused("append(" + bad + ")", ARGUMENT, x, y -> y.append(bad));
        }
        check.equal("append(0)", x.append(0), 1);
        check.equal("append(127)", x.append(127), 2);
        for (int length = 3; length <= 100; length++) {
            check.equal("append, length " + length, x.append('d'), length);
        }
        check.refused("a byte too many", STATE, x, y -> y.append(0));
        check.refused("a byte too many, out of range", ARGUMENT, x, y -> y.append(128));
        check.equal("nothing of it can be undone", Check.savedStates(x), 0);
    }

    private static void clearText() {
        SunsetDates x = new SunsetDates();
        check.equal("clearText of a new object", x.clearText(), 0);
        Check.write(x, "xyz");
        check.equal("clearText", x.clearText(), 3);
        check.equal("clearText again", x.clearText(), 0);
        check.equal("append then", x.append('d'), 1);
        check.equal("the old bytes are gone", x.carryOut(), -11);
    }

    private static void noOrders() {
        SunsetDates x = new SunsetDates();
        check.equal("carryOut without a text", x.carryOut(), 0);
        check.equal("is undoable", x.undo(), 0);
        check.refused("just once", STATE, x, y -> y.undo());
    }

    private static void eachOrder() {
        SunsetDates x = Calendars.small();
        check.equal("p", Check.carryOut(x, "p01@070;"), 1);
        check.equal("its version", x.user(0, 2), 1);
        check.equal("its day", x.user(0, 3), 70);
        check.equal("l", Check.carryOut(x, "l0+05;"), 1);
        check.equal("the day then", x.user(0, 3), 75);
        check.equal("the slips", x.user(0, 4), 1);
        check.equal("their days", x.user(0, 5), 5);
        check.equal("e", Check.carryOut(x, "e1+99;"), 1);
        check.equal("its end", x.version(1, 1), 299);
        check.equal("its days more", x.version(1, 3), 99);
        check.equal("s", Check.carryOut(x, "s10:1-009,99;s01:000-999,1;"), 2);
        int[] due = {1, 0, 1, 9, 99};
        for (int what = 0; what <= 4; what++) {
            check.equal("its shim, " + what, x.shim(0, what), due[what]);
        }
        check.equal("the other shim's price", x.shim(1, 4), 1);
        check.equal("d", Check.carryOut(x, "d00;"), 1);
        check.equal("the shim that is left", x.shim(0, 0), 0);
        check.equal("the text stays", x.clearText(), 4);
        check.equal("a day of one digit", Check.carryOut(x, "p00@0;"), 1);
        check.equal("it is the day", x.user(0, 3), 0);
        check.equal("again", x.carryOut(), 1);
    }

    private static void stopsAtTheFirstRefusal() {
        String[] refused = {
            "p10@5;", "p02@5;", "l1+1;", "l0+99;", "e2+1;", "e0+99;", "s20:0-9,1;", "s02:0-9,1;", "s00:9-8,1;",
            "d1;", "d12;", "d99;"};
        for (String order : refused) {
            SunsetDates x = new SunsetDates();
            x.addVersion(0, 950);
            x.addVersion(50, 200);
            x.addFeature(1);
            x.addFeature(3);
            x.addUser(0, 3);
            check.equal("orders up to " + order, Check.carryOut(x, "p01@950;s00:0-9,1;" + order + "p01@3;"), 2);
            check.equal("the pledge after " + order, x.user(0, 3), 950);
            check.equal("the end after " + order, x.version(0, 1), 950);
            check.equal("the shims after " + order, x.value(3), 1);
            check.equal("the slips after " + order, x.value(6), 0);
        }
        SunsetDates x = Calendars.small();
        check.equal("a slip without a pledge", Check.carryOut(x, "l0+1;p00@1;"), 0);
        check.equal("no pledge", x.value(4), 0);
        SunsetDates full = Calendars.full();
        check.equal("a thirteenth shim", Check.carryOut(full, "d5;s00:1-2,3;s00:1-2,3;d0;"), 2);
        check.equal("the shims then", full.value(3), 12);
    }

    private static void savesOneState() {
        SunsetDates x = new SunsetDates();
        x.addVersion(0, 500);
        x.addUser(0, 0);
        String before = Check.state(x);
        check.equal("three orders", Check.carryOut(x, "p00@5;l0+1;e0+1;"), 3);
        check.equal("undo of all of them", x.undo(), 2);
        check.equal("the state then", Check.state(x), before);
        check.equal("the text is still there", x.carryOut(), 3);
        check.equal("no order", Check.carryOut(x, "d0;"), 0);
        check.equal("is saved, too", x.undo(), 3);
        Check.carryOut(x, "p00@5;l0+0;");
        check.equal("a syntax error saves nothing", x.undo(), 2);
    }

    private static void wrong(String text, int position) {
        SunsetDates x = Calendars.small();
        x.pledge(0, 1, 5);
        Check.write(x, text);
        long before = x.digest();
        check.equal("carryOut of " + text, x.carryOut(), -10 - position);
        check.equal("the state after " + text, x.digest(), before);
        check.equal("the text after " + text, x.clearText(), text.length());
    }

    private static void syntaxErrors() {
        wrong("x", 0);
        wrong(";", 0);
        wrong(" p00@1;", 0);
        wrong("P00@1;", 0);
        wrong("p00@1;;", 6);
        wrong("p00@1; l0+1;", 6);
        wrong("e0+1;q", 5);
        String[] orders = {"p01@300;", "l0+90;", "e1+90;", "s01:200-999,50;", "d11;"};
        for (String order : orders) {
            for (int length = 1; length < order.length(); length++) {
                wrong("e0+1;" + order.substring(0, length), 5 + length);
            }
        }
        wrong("px0@1;", 1);
        wrong("p0x@1;", 2);
        wrong("p08@1;", 2);
        wrong("p09@1;", 2);
        wrong("p00:1;", 3);
        wrong("p000@1;", 3);
        wrong("p00@;", 4);
        wrong("p00@-1;", 4);
        wrong("p00@1,", 5);
        wrong("l+1;", 1);
        wrong("l00+1;", 2);
        wrong("l0-1;", 2);
        wrong("l0+;", 3);
        wrong("l0+x", 3);
        wrong("e8+1;", 1);
        wrong("e9", 1);
        wrong("e0+1,", 4);
        wrong("s0", 2);
        wrong("s08:0-1,1;", 2);
        wrong("s00@0-1,1;", 3);
        wrong("s00:-1,1;", 4);
        wrong("s00:0,1;", 5);
        wrong("s00:0-,1;", 6);
        wrong("s00:0-1;", 7);
        wrong("s00:0-1,;", 8);
        wrong("s00:0-1,1,", 9);
        wrong("d;", 1);
        wrong("d-1;", 1);
        wrong("d1.", 2);
    }

    private static void syntaxErrorsOfNumbers() {
        wrong("p00@1000;", 7);
        wrong("p00@0000;", 7);
        wrong("s00:1000-1,1;", 7);
        wrong("s00:0-0001,1;", 9);
        wrong("l0+100;", 5);
        wrong("l0+001;", 5);
        wrong("l0+000;", 5);
        wrong("e0+0000", 5);
        wrong("s00:0-1,100;", 10);
        wrong("d000;", 3);
        wrong("d012;", 3);
        wrong("l0+0;", 3);
        wrong("l0+00;", 3);
        wrong("l0+0", 3);
        wrong("l0+00", 3);
        wrong("l0+0x", 3);
        wrong("l0+00,", 3);
        wrong("e0+0;", 3);
        wrong("e0+00", 3);
        wrong("s00:0-1,0;", 8);
        wrong("s00:0-1,00", 8);
        wrong("s00:0-1,0/", 8);
        wrong("e0+1;l0+0;x", 8);
        SunsetDates x = Calendars.small();
        check.equal("a last day before the first one is no syntax error", Check.carryOut(x, "s00:9-1,1;"), 0);
        check.equal("nor is a shim that there cannot be", Check.carryOut(x, "d99;"), 0);
        check.equal("nor are zeros in front", Check.carryOut(x, "p01@001;l0+01;e0+09;s00:000-001,01;d00;"), 5);
    }

    private static void longTexts() {
        SunsetDates x = Calendars.small();
        String text = "";
        for (int i = 0; i < 16; i++) {
            text += "p00@" + (i % 10) + ";";
        }
        check.equal("orders in 99 bytes", Check.carryOut(x, text + "d0;"), 16);
        x.addShim(0, 0, 0, 0, 1);
        check.equal("orders in 99 bytes, the last one, too", x.carryOut(), 17);
        check.equal("a hundredth byte", x.append('d'), 100);
        check.equal("the text ends too early", x.carryOut(), -110);
        check.equal("twenty orders in 100 bytes", Check.carryOut(Calendars.small(), "e0+1;".repeat(20)), 20);
        SunsetDates y = Calendars.full();
        check.equal("33 orders", Check.carryOut(y, "d0;".repeat(33)), 12);
    }
}
