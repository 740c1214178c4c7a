/** Promises 12 to 20: the values. */
final class ValuesTest {
    private static final Class<IndexOutOfBoundsException> INDEX = IndexOutOfBoundsException.class;
    private static final Class<IllegalArgumentException> ARGUMENT = IllegalArgumentException.class;
    private static final int MIN = Integer.MIN_VALUE;
    private static final int MAX = Integer.MAX_VALUE;

    private static final Check check = new Check("ValuesTest");

    public static void main(String[] args) {
        version();
        user();
        shim();
        versionOn();
        served();
        missingAndStranded();
        costs();
        value();
        check.finish();
    }

    private static void version() {
        SunsetDates x = Calendars.small();
        x.extend(1, 7);
        x.extend(1, 8);
        x.addShim(0, 1, 0, 9, 1);
        x.addShim(1, 1, 0, 9, 1);
        x.addShim(0, 0, 0, 9, 1);
        x.addShim(0, 1, 0, 9, 1);
        int[][] due = {{0, 100, 3, 0, 1}, {50, 215, 2, 15, 3}};
        for (int version = 0; version <= 1; version++) {
            for (int what = 0; what <= 4; what++) {
                check.equal("version(" + version + ", " + what + ")", x.version(version, what), due[version][what]);
            }
        }
        x.undo();
        check.equal("shims for it after undo", x.version(1, 4), 2);
        for (int bad : new int[] {-1, 2, MIN, MAX}) {
            check.refused("version(" + bad + ", 5)", INDEX, x, y -> y.version(bad, 5));
        }
        for (int bad : new int[] {-1, 5, MIN, MAX}) {
            check.refused("version(0, " + bad + ")", ARGUMENT, x, y -> y.version(0, bad));
        }
    }

    private static void user() {
        SunsetDates x = Calendars.small();
        x.addUser(1, 2);
        x.pledge(0, 1, 30);
        x.slip(0, 5);
        x.slip(0, 6);
        int[][] due = {{0, 3, 1, 41, 2, 11}, {1, 2, -1, -1, 0, 0}};
        for (int user = 0; user <= 1; user++) {
            for (int what = 0; what <= 5; what++) {
                check.equal("user(" + user + ", " + what + ")", x.user(user, what), due[user][what]);
            }
        }
        for (int bad : new int[] {-1, 2, MIN, MAX}) {
            check.refused("user(" + bad + ", 6)", INDEX, x, y -> y.user(bad, 6));
        }
        for (int bad : new int[] {-1, 6, MIN, MAX}) {
            check.refused("user(0, " + bad + ")", ARGUMENT, x, y -> y.user(0, bad));
        }
    }

    private static void shim() {
        SunsetDates x = Calendars.small();
        x.addShim(1, 0, 11, 22, 33);
        x.addShim(0, 1, 5, 6, 7);
        int[][] due = {{1, 0, 11, 22, 33}, {0, 1, 5, 6, 7}};
        for (int shim = 0; shim <= 1; shim++) {
            for (int what = 0; what <= 4; what++) {
                check.equal("shim(" + shim + ", " + what + ")", x.shim(shim, what), due[shim][what]);
            }
        }
        for (int bad : new int[] {-1, 2, MIN, MAX}) {
            check.refused("shim(" + bad + ", 5)", INDEX, x, y -> y.shim(bad, 5));
        }
        for (int bad : new int[] {-1, 5, MIN, MAX}) {
            check.refused("shim(0, " + bad + ")", ARGUMENT, x, y -> y.shim(0, bad));
        }
    }

    private static void versionOn() {
        SunsetDates x = Calendars.small();
        check.equal("without a pledge, day 0", x.versionOn(0, 0), 0);
        check.equal("without a pledge, day 999", x.versionOn(0, 999), 0);
        x.pledge(0, 1, 70);
        check.equal("the day before the pledge's", x.versionOn(0, 69), 0);
        check.equal("the pledge's day", x.versionOn(0, 70), 1);
        check.equal("day 999, though the version has ended", x.versionOn(0, 999), 1);
        x.pledge(0, 1, 0);
        check.equal("pledge on day 0", x.versionOn(0, 0), 1);
        for (int bad : new int[] {-1, 1, MIN, MAX}) {
            check.refused("versionOn(" + bad + ", 1000)", INDEX, x, y -> y.versionOn(bad, 1000));
        }
        for (int bad : new int[] {-1, 1000, MIN, MAX}) {
            check.refused("versionOn(0, " + bad + ")", ARGUMENT, x, y -> y.versionOn(0, bad));
        }
    }

    private static void served() {
        SunsetDates x = Calendars.small();
        x.addUser(1, 1);
        x.addShim(0, 1, 100, 110, 9);
        x.addShim(1, 1, 0, 999, 9);
        x.addShim(0, 0, 60, 70, 9);
        check.equal("by the version, its first day", x.served(0, 0, 0), 0);
        check.equal("by the version, though there is a shim", x.served(0, 0, 65), 0);
        check.equal("by the version, its last day", x.served(0, 0, 99), 0);
        check.equal("has ended", x.served(0, 0, 100), 3);
        check.equal("not released yet", x.served(1, 0, 49), 2);
        check.equal("released, no shim", x.served(1, 0, 50), 4);
        check.equal("a shim for the other version only", x.served(1, 0, 65), 4);
        check.equal("the day before the shim's first", x.served(1, 0, 99), 4);
        check.equal("the shim's first day", x.served(1, 0, 100), 1);
        check.equal("the shim's last day", x.served(1, 0, 110), 1);
        check.equal("the day after the shim's last", x.served(1, 0, 111), 4);
        check.equal("has ended, shim or not", x.served(1, 0, 200), 3);
        check.equal("not used, on a version that is not released", x.served(1, 1, 0), 5);
        check.equal("not used, though it is there", x.served(1, 1, 60), 5);
        for (int bad : new int[] {-1, 2, MIN, MAX}) {
            check.refused("served(" + bad + ", 0, 1000)", INDEX, x, y -> y.served(bad, 0, 1000));
            check.refused("served(0, " + bad + ", -1)", INDEX, x, y -> y.served(0, bad, -1));
        }
        for (int bad : new int[] {-1, 1000, MIN, MAX}) {
            check.refused("served(1, 1, " + bad + ")", ARGUMENT, x, y -> y.served(1, 1, bad));
        }
    }

    private static void missingAndStranded() {
        SunsetDates x = Calendars.small();
        x.addUser(1, 3);
        x.addUser(1, 0);
        x.addShim(0, 1, 150, 160, 9);
        int[][] due = {
            // day, missing of user 0, of user 1, stranded
            {0, 0, 3, 2}, {49, 0, 3, 2}, {50, 0, 1, 2}, {99, 0, 1, 2}, {100, 3, 1, 3}, {149, 3, 1, 3},
            {150, 3, 0, 1}, {160, 3, 0, 1}, {161, 3, 1, 3}, {199, 3, 1, 3}, {200, 3, 3, 3}, {999, 3, 3, 3}};
        for (int[] row : due) {
            check.equal("missing(0, " + row[0] + ")", x.missing(0, row[0]), row[1]);
            check.equal("missing(1, " + row[0] + ")", x.missing(1, row[0]), row[2]);
            check.equal("missing(2, " + row[0] + ")", x.missing(2, row[0]), 0);
            check.equal("stranded(" + row[0] + ")", x.stranded(row[0]), row[3]);
        }
        for (int bad : new int[] {-1, 3, MIN, MAX}) {
            check.refused("missing(" + bad + ", 1000)", INDEX, x, y -> y.missing(bad, 1000));
        }
        for (int bad : new int[] {-1, 1000, MIN, MAX}) {
            check.refused("missing(0, " + bad + ")", ARGUMENT, x, y -> y.missing(0, bad));
            check.refused("stranded(" + bad + ")", ARGUMENT, x, y -> y.stranded(bad));
        }
        SunsetDates full = Calendars.full();
        check.equal("stranded with ten users", full.stranded(999), 1023);
    }

    private static void costs() {
        SunsetDates x = Calendars.small();
        x.addUser(1, 3);
        check.equal("costs without shims", x.costs(0, 999), 0);
        x.addShim(0, 1, 0, 120, 10);
        check.equal("from the release on", x.costs(0, 999), 71 * 10);
        check.equal("one day of it", x.costs(60, 60), 10);
        check.equal("the day before it", x.costs(49, 49), 0);
        check.equal("its last day and the one behind it", x.costs(120, 121), 10);
        x.addShim(0, 1, 110, 130, 4);
        check.equal("the cheaper one counts", x.costs(0, 999), 60 * 10 + 21 * 4);
        x.addShim(0, 1, 115, 115, 99);
        check.equal("a dearer one does not", x.costs(115, 115), 4);
        x.addShim(1, 1, 0, 999, 50);
        check.equal("what the version serves costs nothing", x.costs(0, 999), 60 * 10 + 21 * 4);
        x.addShim(0, 1, 190, 999, 7);
        check.equal("up to the end of the version", x.costs(131, 999), 10 * 7);
        x.pledge(0, 1, 195);
        check.equal("both users", x.costs(131, 999), 10 * 7 + 5 * 7);
        x.addShim(0, 0, 0, 999, 33);
        x.put(0, 0, false);
        check.equal("the user on the other version, too", x.costs(0, 99), 100 * 33 + 50 * 10);
        for (int bad : new int[] {-1, 1000, MIN, MAX}) {
            check.refused("costs(" + bad + ", 999)", ARGUMENT, x, y -> y.costs(bad, 999));
            check.refused("costs(0, " + bad + ")", ARGUMENT, x, y -> y.costs(0, bad));
        }
        check.refused("costs(5, 4)", ARGUMENT, x, y -> y.costs(5, 4));
        mostCosts();
    }

    private static void mostCosts() {
        SunsetDates x = new SunsetDates();
        x.addVersion(0, 1000);
        for (int feature = 0; feature < 10; feature++) {
            x.addFeature(0);
            x.addShim(feature, 0, 0, 999, 99);
        }
        for (int user = 0; user < 10; user++) {
            x.addUser(0, 1023);
        }
        check.equal("the most that there can be", x.costs(0, 999), 1000 * 10 * 10 * 99);
    }

    private static void value() {
        SunsetDates x = Calendars.small();
        x.addVersion(0, 10);
        x.addUser(1, 2);
        x.addUser(0, 0);
        x.addShim(0, 0, 0, 9, 1);
        x.pledge(0, 1, 80);
        x.pledge(2, 1, 0);
        x.slip(0, 1);
        x.slip(0, 2);
        x.slip(2, 3);
        // User 0 moves on day 83 to a version without feature 0; user 1 waits up to day 49 for version 1.
        int[] due = {3, 2, 3, 1, 2, 3, 3, 50 + 917};
        for (int what = 0; what <= 7; what++) {
            check.equal("value(" + what + ")", x.value(what), due[what]);
        }
        x.addShim(0, 1, 90, 199, 1);
        check.equal("days with the shim", x.value(7), 50 + 7 + 800);
        x.takeBack(2);
        check.equal("pledges after takeBack", x.value(4), 1);
        check.equal("slips after takeBack", x.value(6), 3);
        for (int bad : new int[] {-1, 8, MIN, MAX}) {
            check.refused("value(" + bad + ")", ARGUMENT, x, y -> y.value(bad));
        }
    }
}
