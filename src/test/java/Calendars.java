/** Calendars that the tests begin with. */
final class Calendars {
    /** Versions 0 to 99 and 50 to 199, feature 0 of the first, 1 of both, a user on the first who uses both. */
    static SunsetDates small() {
        SunsetDates x = new SunsetDates();
        x.addVersion(0, 100);
        x.addVersion(50, 200);
        x.addFeature(1);
        x.addFeature(3);
        x.addUser(0, 3);
        return x;
    }

    /** As small(), then with as many versions, features, users and shims as there can be. */
    static SunsetDates full() {
        SunsetDates x = small();
        for (int i = 2; i < 8; i++) {
            x.addVersion(i, 1000 - i);
        }
        for (int i = 2; i < 10; i++) {
            x.addFeature(i);
        }
        for (int i = 1; i < 10; i++) {
            x.addUser(i % 8, i);
        }
        for (int i = 0; i < 12; i++) {
            x.addShim(i % 10, i % 8, i, 900 + i, 1 + i);
        }
        return x;
    }

    /** One version, which has the one feature that the one user uses. */
    static SunsetDates single(int release, int end) {
        SunsetDates x = new SunsetDates();
        x.addVersion(release, end);
        x.addFeature(1);
        x.addUser(0, 1);
        return x;
    }

    /** Two versions without an end, the feature in none of them, and a user of it on the first one. */
    static SunsetDates bare() {
        SunsetDates x = new SunsetDates();
        x.addVersion(0, 1000);
        x.addVersion(0, 1000);
        x.addFeature(0);
        x.addUser(0, 1);
        return x;
    }

    /** Two versions that end on 500 and 600, a user with a pledge that can slip; four states are saved. */
    static SunsetDates early() {
        SunsetDates x = new SunsetDates();
        x.addVersion(0, 500);
        x.addVersion(0, 600);
        x.addUser(0, 0);
        x.pledge(0, 1, 100);
        return x;
    }

    /** A version on the days 10 to 19 without the feature, which a shim at 5 serves for the one user. */
    static SunsetDates shimmed10To20() {
        SunsetDates x = single(10, 20);
        x.put(0, 0, false);
        x.addShim(0, 0, 0, 999, 5);
        return x;
    }

    /** As many as there can be: ten users of ten features on version 7, each use served by a shim at 99 on all days. */
    static SunsetDates dearest() {
        SunsetDates x = new SunsetDates();
        for (int i = 0; i < 8; i++) {
            x.addVersion(0, 1000);
        }
        for (int i = 0; i < 10; i++) {
            x.addFeature(0);
        }
        for (int i = 0; i < 10; i++) {
            x.addUser(7, 1023);
        }
        for (int i = 0; i < 12; i++) {
            x.addShim(Math.min(i, 9), 7, 0, 999, 99);
        }
        return x;
    }

    private Calendars() { }
}
