/** Promises 30 and 31: undo and digest. */
final class StateTest {
    private static final Class<IllegalStateException> STATE = IllegalStateException.class;

    private static final Check check = new Check("StateTest");

    public static void main(String[] args) {
        undoOfEachThing();
        atMostFourStates();
        undoLeavesTheText();
        digestOfNew();
        digestByHand();
        check.finish();
    }

    private static void undoOfEachThing() {
        SunsetDates x = Calendars.full();
        x.pledge(3, 1, 40);
        x.slip(3, 4);
        x.extend(2, 1);
        String before = Check.state(x);
        x.put(0, 5, true);
        x.takeBack(3);
        x.extend(2, 1);
        x.dropShim(4);
        check.equal("undo of the dropped shim", x.undo(), 3);
        check.equal("undo of more days", x.undo(), 2);
        check.equal("undo of a pledge taken back", x.undo(), 1);
        check.equal("undo of a feature put in", x.undo(), 0);
        check.equal("the state then", Check.state(x), before);
        check.refused("one more undo", STATE, x, y -> y.undo());
    }

    private static void atMostFourStates() {
        SunsetDates x = new SunsetDates();
        for (int i = 0; i < 7; i++) {
            check.equal("addVersion " + i, x.addVersion(i, 10 + i), i);
        }
        for (int left = 3; left >= 0; left--) {
            check.equal("undo", x.undo(), left);
            check.equal("versions then", x.value(0), left + 3);
            check.equal("the release of the last one", x.version(left + 2, 0), left + 2);
        }
        check.refused("undo of the oldest, which is dropped", STATE, x, y -> y.undo());
        check.equal("a version in place of those undone", x.addVersion(90, 91), 3);
        check.equal("undo of it", x.undo(), 0);
        check.equal("undo cannot be undone", x.value(0), 3);
    }

    private static void undoLeavesTheText() {
        SunsetDates x = new SunsetDates();
        x.addVersion(0, 10);
        Check.write(x, "e0+1;");
        check.equal("undo", x.undo(), 0);
        check.equal("the text stays", x.clearText(), 5);
    }

    private static long hash(long... values) {
        long hash = 3733;
        for (long value : values) {
            hash = hash * 31 + value;
        }
        return hash;
    }

    private static void digestOfNew() {
        SunsetDates x = new SunsetDates();
        check.equal("digest of a new object", x.digest(), hash(0, 0, 0, 0, 0, 0, 0, 0, 0, 0, 0));
        x.append('x');
        check.equal("digest with a text", x.digest(), hash(1, 0, 0, 0, 0, 0, 0, 0, 0, 0, 0));
        x.append('x');
        check.equal("digest with a longer text", x.digest(), hash(2, 0, 0, 0, 0, 0, 0, 0, 0, 0, 0));
    }

    private static void digestByHand() {
        SunsetDates x = new SunsetDates();
        x.addVersion(10, 300);
        x.addVersion(200, 900);
        x.addFeature(1);
        x.addUser(0, 1);
        x.addUser(1, 0);
        x.addShim(0, 1, 250, 899, 5);
        x.pledge(0, 1, 240);
        x.slip(0, 20);
        x.extend(1, 3);
        x.undo();
        Check.write(x, "abc");
        // User 0 is stranded up to day 9 and from day 900 on, and pays 5 on the days 260 to 899.
        check.equal("digest", x.digest(), hash(3, 2, 1, 2, 1, 1, 1, 1, 110,
            10, 300, 1, 0, 0, 200, 900, 0, 0, 1,
            0, 1, 1, 260, 1, 20, 0, 1, 0, -1, -1, 0, 0, -1,
            0, 1, 250, 899, 5, 640 * 5, 3));
        check.equal("digest again", x.digest(), x.digest());
        SunsetDates y = new SunsetDates();
        y.addVersion(0, 1000);
        y.addFeature(0);
        y.addUser(0, 1);
        y.addShim(0, 0, 0, 999, 2);
        check.equal("digest with costs on the first day and on the last one", y.digest(),
            hash(0, 1, 1, 1, 1, 0, 1, 0, 0, 0, 1000, 0, 0, 1, 0, 1, -1, -1, 0, 0, -1, 0, 0, 0, 999, 2, 2000, 4));
    }
}
