import java.util.function.Supplier;

/** Promises 1 to 11: a new object, and the calls that change the calendar. */
final class CalendarTest {
    private static final Class<IndexOutOfBoundsException> INDEX = IndexOutOfBoundsException.class;
    private static final Class<IllegalArgumentException> ARGUMENT = IllegalArgumentException.class;
    private static final Class<IllegalStateException> STATE = IllegalStateException.class;
    private static final int MIN = Integer.MIN_VALUE;
    private static final int MAX = Integer.MAX_VALUE;

    private static final Check check = new Check("CalendarTest");

    public static void main(String[] args) {
        newObject();
        addVersion();
        addFeature();
        put();
        addUser();
        pledge();
        takeBack();
        slip();
        extend();
        addShim();
        dropShim();
        savesAlsoWithoutChange();
        check.finish();
    }

    /** That a call saves just one state, and that undo brings back what was before it. */
    private static void undoable(String what, Supplier<SunsetDates> made, Check.Call call) {
        SunsetDates x = made.get();
        String before = Check.state(x);
        call.on(x);
        check.equal("saved states that remain when " + what + " is undone", x.undo(), 3);
        check.equal("undo of " + what, Check.state(x), before);
        SunsetDates fresh = made.get();
        check.equal("saved states before " + what, Check.savedStates(fresh), 4);
    }

    private static void newObject() {
        SunsetDates x = new SunsetDates();
        for (int what = 0; what <= 7; what++) {
            check.equal("value of a new object, " + what, x.value(what), 0);
        }
        check.equal("text of a new object", x.clearText(), 0);
        check.equal("costs of a new object", x.costs(0, 999), 0);
        check.equal("share of a new object", x.share(0), 1.0);
        check.refused("undo of a new object", STATE, x, y -> y.undo());
    }

    private static void addVersion() {
        SunsetDates x = new SunsetDates();
        check.equal("addVersion(0, 1)", x.addVersion(0, 1), 0);
        check.equal("addVersion(998, 1000)", x.addVersion(998, 1000), 1);
        check.equal("addVersion(998, 999)", x.addVersion(998, 999), 2);
        check.equal("its release", x.version(1, 0), 998);
        check.equal("its end", x.version(1, 1), 1000);
        check.equal("its features", x.version(1, 2), 0);
        check.equal("its days more", x.version(1, 3), 0);
        check.equal("versions", x.value(0), 3);
        x.addFeature(7);
        check.equal("a new version has no feature", x.version(x.addVersion(5, 10), 2), 0);
        for (int[] bad : new int[][] {{-1, 5}, {999, 1000}, {MIN, 5}, {MAX, MIN}, {MAX, MAX}, {5, 5}, {5, 4},
            {0, 0}, {0, -1}, {0, 1001}, {998, 998}, {0, MAX}}) {
            check.refused("addVersion(" + bad[0] + ", " + bad[1] + ")", ARGUMENT, x, y -> y.addVersion(bad[0], bad[1]));
        }
        SunsetDates full = Calendars.full();
        check.refused("a ninth version", STATE, full, y -> y.addVersion(0, 1));
        check.refused("a ninth version out of range", ARGUMENT, full, y -> y.addVersion(0, 0));
        undoable("addVersion", Calendars::small, y -> y.addVersion(3, 4));
    }

    private static void addFeature() {
        SunsetDates x = new SunsetDates();
        check.equal("addFeature(0) without versions", x.addFeature(0), 0);
        check.refused("addFeature(1) without versions", ARGUMENT, x, y -> y.addFeature(1));
        x.addVersion(0, 100);
        x.addVersion(50, 200);
        check.equal("addFeature(2)", x.addFeature(2), 1);
        check.equal("addFeature(3)", x.addFeature(3), 2);
        check.equal("addFeature(1)", x.addFeature(1), 3);
        check.equal("features of 0", x.version(0, 2), 12);
        check.equal("features of 1", x.version(1, 2), 6);
        for (int bad : new int[] {-1, 4, 5, 8, 256, 1 << 30, MIN, MAX}) {
            check.refused("addFeature(" + bad + ")", ARGUMENT, x, y -> y.addFeature(bad));
        }
        SunsetDates full = Calendars.full();
        check.equal("features", full.value(1), 10);
        check.refused("an eleventh feature", STATE, full, y -> y.addFeature(255));
        check.refused("an eleventh feature of a version 8", ARGUMENT, full, y -> y.addFeature(256));
        undoable("addFeature", Calendars::small, y -> y.addFeature(2));
    }

    private static void put() {
        SunsetDates x = Calendars.small();
        check.equal("put(0, 1, true)", x.put(0, 1, true), 3);
        check.equal("features of 1", x.version(1, 2), 3);
        check.equal("put(0, 0, false)", x.put(0, 0, false), 2);
        check.equal("features of 0", x.version(0, 2), 2);
        check.equal("put(0, 1, false)", x.put(0, 1, false), 0);
        check.equal("the other feature stays", x.version(1, 2), 2);
        check.refused("put out again", STATE, x, y -> y.put(0, 1, false));
        check.refused("put in again", STATE, x, y -> y.put(1, 1, true));
        for (int bad : new int[] {-1, 2, MIN, MAX}) {
            check.refused("put of feature " + bad, INDEX, x, y -> y.put(bad, 0, true));
            check.refused("put into version " + bad, INDEX, x, y -> y.put(0, bad, false));
        }
        undoable("put", Calendars::small, y -> y.put(0, 1, true));
    }

    private static void addUser() {
        SunsetDates x = Calendars.small();
        check.equal("addUser(1, 2)", x.addUser(1, 2), 1);
        check.equal("addUser(1, 0)", x.addUser(1, 0), 2);
        int[] due = {1, 2, -1, -1, 0, 0};
        for (int what = 0; what <= 5; what++) {
            check.equal("a new user, " + what, x.user(1, what), due[what]);
        }
        check.equal("users", x.value(2), 3);
        for (int bad : new int[] {-1, 2, MIN, MAX}) {
            check.refused("addUser on version " + bad, INDEX, x, y -> y.addUser(bad, 0));
            check.refused("addUser on version " + bad + " with a bad set", INDEX, x, y -> y.addUser(bad, -1));
        }
        for (int bad : new int[] {-1, 4, 5, 1 << 30, MIN, MAX}) {
            check.refused("addUser with features " + bad, ARGUMENT, x, y -> y.addUser(0, bad));
        }
        SunsetDates full = Calendars.full();
        check.equal("users", full.value(2), 10);
        check.refused("an eleventh user", STATE, full, y -> y.addUser(0, 1023));
        check.refused("an eleventh user with a feature 10", ARGUMENT, full, y -> y.addUser(0, 1024));
        check.refused("an eleventh user on a version 8", INDEX, full, y -> y.addUser(8, 1024));
        undoable("addUser", Calendars::small, y -> y.addUser(1, 3));
    }

    private static void pledge() {
        SunsetDates x = Calendars.small();
        check.equal("the first pledge", x.pledge(0, 1, 0), -1);
        check.equal("a second one", x.pledge(0, 0, 999), 0);
        check.equal("its version", x.user(0, 2), 0);
        check.equal("its day", x.user(0, 3), 999);
        check.equal("a third one", x.pledge(0, 1, 70), 999);
        check.equal("users with a pledge", x.value(4), 1);
        for (int bad : new int[] {-1, 1, MIN, MAX}) {
            check.refused("pledge of user " + bad, INDEX, x, y -> y.pledge(bad, 0, 1000));
        }
        for (int bad : new int[] {-1, 2, MIN, MAX}) {
            check.refused("pledge for version " + bad, INDEX, x, y -> y.pledge(0, bad, -1));
        }
        for (int bad : new int[] {-1, 1000, MIN, MAX}) {
            check.refused("pledge on day " + bad, ARGUMENT, x, y -> y.pledge(0, 0, bad));
        }
        undoable("pledge", Calendars::small, y -> y.pledge(0, 1, 70));
    }

    private static void takeBack() {
        SunsetDates x = Calendars.small();
        check.refused("takeBack without a pledge", STATE, x, y -> y.takeBack(0));
        x.pledge(0, 1, 0);
        x.slip(0, 40);
        check.equal("takeBack", x.takeBack(0), 40);
        int[] due = {0, 3, -1, -1, 1, 40};
        for (int what = 0; what <= 5; what++) {
            check.equal("user after takeBack, " + what, x.user(0, what), due[what]);
        }
        check.equal("users with a pledge", x.value(4), 0);
        check.equal("version after takeBack", x.versionOn(0, 999), 0);
        check.refused("takeBack again", STATE, x, y -> y.takeBack(0));
        for (int bad : new int[] {-1, 1, MIN, MAX}) {
            check.refused("takeBack of user " + bad, INDEX, x, y -> y.takeBack(bad));
        }
        x.pledge(0, 1, 0);
        check.equal("takeBack on day 0", x.takeBack(0), 0);
        undoable("takeBack", () -> pledged(70), y -> y.takeBack(0));
    }

    private static SunsetDates pledged(int day) {
        SunsetDates x = Calendars.small();
        x.pledge(0, 1, day);
        return x;
    }

    private static void slip() {
        SunsetDates x = Calendars.small();
        check.refused("slip without a pledge", STATE, x, y -> y.slip(0, 1));
        check.refused("slip without a pledge by 0", ARGUMENT, x, y -> y.slip(0, 0));
        x.pledge(0, 1, 0);
        check.equal("slip by 1", x.slip(0, 1), 1);
        check.equal("slip by 99", x.slip(0, 99), 100);
        check.equal("its day", x.user(0, 3), 100);
        check.equal("its version", x.user(0, 2), 1);
        check.equal("slips", x.user(0, 4), 2);
        check.equal("their days", x.user(0, 5), 100);
        x.pledge(0, 0, 900);
        check.equal("slips of all pledges", x.user(0, 4), 2);
        check.equal("slip up to 999", x.slip(0, 99), 999);
        check.equal("slips then", x.user(0, 4), 3);
        check.equal("their days then", x.user(0, 5), 199);
        check.equal("slips of all users", x.value(6), 3);
        check.refused("slip beyond 999", STATE, x, y -> y.slip(0, 1));
        for (int bad : new int[] {-1, 0, 100, MIN, MAX}) {
            check.refused("slip by " + bad, ARGUMENT, x, y -> y.slip(0, bad));
        }
        for (int bad : new int[] {-1, 1, MIN, MAX}) {
            check.refused("slip of user " + bad, INDEX, x, y -> y.slip(bad, 0));
        }
        undoable("slip", () -> pledged(70), y -> y.slip(0, 5));
    }

    private static void extend() {
        SunsetDates x = Calendars.small();
        check.equal("extend by 1", x.extend(0, 1), 101);
        check.equal("extend by 99", x.extend(0, 99), 200);
        check.equal("its end", x.version(0, 1), 200);
        check.equal("its days more", x.version(0, 3), 100);
        check.equal("the other's end", x.version(1, 1), 200);
        x.addVersion(0, 901);
        check.equal("extend up to 1000", x.extend(2, 99), 1000);
        check.refused("extend beyond 1000", STATE, x, y -> y.extend(2, 1));
        for (int bad : new int[] {-1, 0, 100, MIN, MAX}) {
            check.refused("extend by " + bad, ARGUMENT, x, y -> y.extend(2, bad));
        }
        for (int bad : new int[] {-1, 3, MIN, MAX}) {
            check.refused("extend of version " + bad, INDEX, x, y -> y.extend(bad, 0));
        }
        undoable("extend", Calendars::small, y -> y.extend(1, 5));
    }

    private static void addShim() {
        SunsetDates x = Calendars.small();
        check.equal("addShim(0, 1, 0, 0, 1)", x.addShim(0, 1, 0, 0, 1), 0);
        check.equal("addShim(1, 0, 0, 999, 99)", x.addShim(1, 0, 0, 999, 99), 1);
        check.equal("addShim(1, 0, 999, 999, 50)", x.addShim(1, 0, 999, 999, 50), 2);
        check.equal("shims", x.value(3), 3);
        for (int bad : new int[] {-1, 2, MIN, MAX}) {
            check.refused("addShim for feature " + bad, INDEX, x, y -> y.addShim(bad, 0, 5, 4, 0));
            check.refused("addShim for version " + bad, INDEX, x, y -> y.addShim(0, bad, 5, 4, 0));
        }
        for (int bad : new int[] {-1, 1000, MIN, MAX}) {
            check.refused("addShim from " + bad, ARGUMENT, x, y -> y.addShim(0, 0, bad, 999, 1));
            check.refused("addShim up to " + bad, ARGUMENT, x, y -> y.addShim(0, 0, 0, bad, 1));
        }
        check.refused("addShim backwards", ARGUMENT, x, y -> y.addShim(0, 0, 5, 4, 1));
        for (int bad : new int[] {-1, 0, 100, MIN, MAX}) {
            check.refused("addShim at price " + bad, ARGUMENT, x, y -> y.addShim(0, 0, 0, 9, bad));
        }
        SunsetDates full = Calendars.full();
        check.equal("shims", full.value(3), 12);
        check.refused("a thirteenth shim", STATE, full, y -> y.addShim(0, 0, 0, 9, 1));
        check.refused("a thirteenth shim at price 0", ARGUMENT, full, y -> y.addShim(0, 0, 0, 9, 0));
        check.refused("a thirteenth shim for version 8", INDEX, full, y -> y.addShim(0, 8, 0, 9, 0));
        undoable("addShim", Calendars::small, y -> y.addShim(0, 1, 10, 20, 30));
    }

    private static void dropShim() {
        SunsetDates x = Calendars.small();
        check.refused("dropShim without shims", INDEX, x, y -> y.dropShim(0));
        for (int i = 0; i < 4; i++) {
            x.addShim(i % 2, i / 2, 10 + i, 20 + i, 30 + i);
        }
        check.equal("dropShim(1)", x.dropShim(1), 3);
        int[] left = {0, 2, 3};
        for (int shim = 0; shim < 3; shim++) {
            int old = left[shim];
            int[] due = {old % 2, old / 2, 10 + old, 20 + old, 30 + old};
            for (int what = 0; what <= 4; what++) {
                check.equal("shim " + shim + " after the drop, " + what, x.shim(shim, what), due[what]);
            }
        }
        check.equal("dropShim of the last one", x.dropShim(2), 2);
        check.equal("dropShim of the first one", x.dropShim(0), 1);
        check.equal("price of the one left", x.shim(0, 4), 32);
        for (int bad : new int[] {-1, 1, 12, MIN, MAX}) {
            check.refused("dropShim(" + bad + ")", INDEX, x, y -> y.dropShim(bad));
        }
        check.equal("dropShim of the only one", x.dropShim(0), 0);
        SunsetDates full = Calendars.full();
        check.equal("dropShim of twelve", full.dropShim(11), 11);
        check.equal("a shim can be added then", full.addShim(0, 0, 1, 2, 3), 11);
        undoable("dropShim", Calendars::full, y -> y.dropShim(3));
    }

    /** A pledge that is the same as the one before changes nothing, and is saved. */
    private static void savesAlsoWithoutChange() {
        SunsetDates x = new SunsetDates();
        x.addVersion(0, 100);
        x.addUser(0, 0);
        x.pledge(0, 0, 5);
        check.equal("the same pledge", x.pledge(0, 0, 5), 5);
        check.equal("undo of the same pledge", x.undo(), 3);
        check.equal("the pledge then", x.user(0, 3), 5);
        check.equal("undo of the first pledge", x.undo(), 2);
        check.equal("no pledge then", x.user(0, 3), -1);
    }
}
