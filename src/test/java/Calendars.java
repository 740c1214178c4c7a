/** Calendars that the tests begin with. */
final class Calendars {
    /** Versions 0 to 99 and 50 to 199, feature 0 of the first, 1 of both, a user on the first who uses both. */
    static SunsetDates small() {
        SunsetDates x = new SunsetDates();
        x.addVersion(0, 100);
        x.addVersion(50, 200);
        x.addFeature(1);
        x.addFeature(3);
        x.addUser(0, 3);
        return x;
    }

    /** As small(), then with as many versions, features, users and shims as there can be. */
    static SunsetDates full() {
        SunsetDates x = small();
        for (int i = 2; i < 8; i++) {
            x.addVersion(i, 1000 - i);
        }
        for (int i = 2; i < 10; i++) {
            x.addFeature(i);
        }
        for (int i = 1; i < 10; i++) {
            x.addUser(i % 8, i);
        }
        for (int i = 0; i < 12; i++) {
            x.addShim(i % 10, i % 8, i, 900 + i, 1 + i);
        }
        return x;
    }

    private Calendars() { }
}
