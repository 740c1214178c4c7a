import java.util.function.Supplier;

/** Promises 12 to 20, sentence by sentence. */
final class ValueSentences {
    static void tell(Sentences s) {
        version(s);
        user(s);
        shim(s);
        versionOn(s);
        served(s);
        servedAnswers(s);
        missing(s);
        stranded(s);
        costs(s);
        costsSum(s);
        value(s);
        valueOfEach(s);
    }

    private static SunsetDates with(Supplier<SunsetDates> made, Check.Call... calls) {
        return CalendarSentences.with(made, calls);
    }

    private static void version(Sentences s) {
        s.promise(12);
        s.says("Returns something about a version");
        s.untouched("version", Calendars::full, y -> y.version(7, 4));
        s.says("`version`: number of a version");
        s.equal("0", Calendars.full().version(0, 1), 100);
        s.equal("7", Calendars.full().version(7, 1), 993);
        s.says("`what`: 0 its release");
        SunsetDates x = with(Calendars::small, y -> y.extend(1, 99), y -> y.extend(1, 1), y -> y.put(0, 1, true),
            y -> y.addShim(0, 1, 0, 0, 1), y -> y.addShim(0, 1, 0, 0, 1), y -> y.addShim(1, 0, 0, 0, 1));
        CalendarSentences.version(s, "changed", x, 1, 50, 300, 3, 100, 2);
        CalendarSentences.version(s, "changed", x, 0, 0, 100, 3, 0, 1);
        CalendarSentences.version(s, "new", with(SunsetDates::new, y -> y.addVersion(998, 1000)), 0, 998, 1000, 0, 0, 0);
        s.refused(Sentences.ARGUMENT, "-1", Calendars::full, y -> y.version(7, -1));
        s.refused(Sentences.ARGUMENT, "5", Calendars::full, y -> y.version(7, 5));
        s.says("Returns that value");
        SunsetDates all = with(() -> CalendarSentences.sized(8, 10, 0));
        for (int feature = 0; feature < 10; feature++) {
            all.put(feature, 7, true);
        }
        s.equal("all features", all.version(7, 2), 1023);
        s.equal("all shims", Calendars.dearest().version(7, 4), 12);
        s.equal("no shims", Calendars.dearest().version(6, 4), 0);
        s.equal("no shim any more", with(Calendars::small, y -> y.addShim(0, 1, 0, 0, 1), y -> y.dropShim(0)).version(1, 4), 0);
        SunsetDates extended = Calendars.single(0, 1);
        for (int i = 0; i < 10; i++) {
            extended.extend(0, 99);
        }
        extended.extend(0, 9);
        s.equal("most days more", extended.version(0, 3), 999);
        extended.undo();
        s.equal("undone", extended.version(0, 3), 990);
        s.says("`IndexOutOfBoundsException`");
        for (int bad : Sentences.noIndex(8)) {
            s.refused(Sentences.INDEX, "version " + bad, Calendars::full, y -> y.version(bad, 0));
            s.refused(Sentences.INDEX, "version " + bad + ", what 5", Calendars::full, y -> y.version(bad, 5));
            s.refused(Sentences.INDEX, "version " + bad + ", what -1", Calendars::full, y -> y.version(bad, -1));
        }
        s.refused(Sentences.INDEX, "version 2 of two", Calendars::small, y -> y.version(2, 0));
        s.refused(Sentences.INDEX, "version 0 of none", SunsetDates::new, y -> y.version(0, 0));
        s.says("`IllegalArgumentException`");
        for (int bad : Sentences.beyond(0, 4)) {
            s.refused(Sentences.ARGUMENT, "what " + bad, Calendars::full, y -> y.version(0, bad));
        }
    }

    private static void user(Sentences s) {
        s.promise(13);
        s.says("Returns something about a user");
        s.untouched("user", Calendars::full, y -> y.user(9, 5));
        s.says("`user`: number of a user");
        s.equal("0", Calendars.full().user(0, 1), 3);
        s.equal("9", Calendars.full().user(9, 1), 9);
        s.says("`what`: 0 the first version");
        SunsetDates x = with(Calendars::small, y -> y.addUser(1, 2), y -> y.pledge(1, 0, 10), y -> y.slip(1, 99),
            y -> y.pledge(1, 1, 20), y -> y.slip(1, 1), y -> y.slip(1, 30));
        CalendarSentences.user(s, "slips of two pledges", x, 1, 1, 2, 1, 51, 3, 130);
        CalendarSentences.user(s, "the other one", x, 0, 0, 3, -1, -1, 0, 0);
        x.takeBack(1);
        CalendarSentences.user(s, "taken back", x, 1, 1, 2, -1, -1, 3, 130);
        x.undo();
        x.undo();
        CalendarSentences.user(s, "undone", x, 1, 1, 2, 1, 21, 2, 100);
        s.refused(Sentences.ARGUMENT, "-1", Calendars::full, y -> y.user(9, -1));
        s.refused(Sentences.ARGUMENT, "6", Calendars::full, y -> y.user(9, 6));
        s.says("Returns that value; NONE for what = 2 and 3 without a pledge");
        SunsetDates none = Calendars.small();
        s.equal("no version", none.user(0, 2), SunsetDates.NONE);
        s.equal("no day", none.user(0, 3), SunsetDates.NONE);
        none.pledge(0, 0, 0);
        s.equal("version 0", none.user(0, 2), 0);
        s.equal("day 0", none.user(0, 3), 0);
        none.pledge(0, 1, 999);
        s.equal("day 999", none.user(0, 3), 999);
        s.equal("all features", Calendars.dearest().user(9, 1), 1023);
        s.equal("last version", Calendars.dearest().user(9, 0), 7);
        none.pledge(0, 1, 0);
        for (int i = 0; i < 10; i++) {
            none.slip(0, 99);
        }
        none.pledge(0, 1, 0);
        none.slip(0, 99);
        s.equal("many slips", none.user(0, 4), 11);
        s.equal("more days than there are", none.user(0, 5), 1089);
        s.says("`IndexOutOfBoundsException`");
        for (int bad : Sentences.noIndex(10)) {
            s.refused(Sentences.INDEX, "user " + bad, Calendars::full, y -> y.user(bad, 0));
            s.refused(Sentences.INDEX, "user " + bad + ", what 6", Calendars::full, y -> y.user(bad, 6));
            s.refused(Sentences.INDEX, "user " + bad + ", what -1", Calendars::full, y -> y.user(bad, -1));
        }
        s.refused(Sentences.INDEX, "user 1 of one", Calendars::small, y -> y.user(1, 0));
        s.refused(Sentences.INDEX, "user 0 of none", SunsetDates::new, y -> y.user(0, 0));
        s.says("`IllegalArgumentException`");
        for (int bad : Sentences.beyond(0, 5)) {
            s.refused(Sentences.ARGUMENT, "what " + bad, Calendars::full, y -> y.user(0, bad));
        }
    }

    private static void shim(Sentences s) {
        s.promise(14);
        s.says("Returns something about a shim");
        s.untouched("shim", Calendars::full, y -> y.shim(11, 4));
        s.says("`shim`: number of a shim");
        s.equal("0", Calendars.full().shim(0, 3), 900);
        s.equal("11", Calendars.full().shim(11, 3), 911);
        s.says("`what`: 0 its feature");
        SunsetDates x = Calendars.full();
        for (int i = 0; i < 12; i++) {
            CalendarSentences.shim(s, "of twelve", x, i, i % 10, i % 8, i, 900 + i, 1 + i);
        }
        s.refused(Sentences.ARGUMENT, "-1", Calendars::full, y -> y.shim(11, -1));
        s.refused(Sentences.ARGUMENT, "5", Calendars::full, y -> y.shim(11, 5));
        s.says("Returns that value");
        SunsetDates edges = with(() -> CalendarSentences.sized(8, 10, 0), y -> y.addShim(0, 0, 0, 0, 1),
            y -> y.addShim(9, 7, 999, 999, 99));
        CalendarSentences.shim(s, "least", edges, 0, 0, 0, 0, 0, 1);
        CalendarSentences.shim(s, "most", edges, 1, 9, 7, 999, 999, 99);
        s.says("`IndexOutOfBoundsException`");
        for (int bad : Sentences.noIndex(12)) {
            s.refused(Sentences.INDEX, "shim " + bad, Calendars::full, y -> y.shim(bad, 0));
            s.refused(Sentences.INDEX, "shim " + bad + ", what 5", Calendars::full, y -> y.shim(bad, 5));
            s.refused(Sentences.INDEX, "shim " + bad + ", what -1", Calendars::full, y -> y.shim(bad, -1));
        }
        s.refused(Sentences.INDEX, "shim 0 of none", Calendars::small, y -> y.shim(0, 0));
        s.refused(Sentences.INDEX, "shim 11 of eleven", () -> with(Calendars::full, y -> y.dropShim(0)),
            y -> y.shim(11, 0));
        s.says("`IllegalArgumentException`");
        for (int bad : Sentences.beyond(0, 4)) {
            s.refused(Sentences.ARGUMENT, "what " + bad, Calendars::full, y -> y.shim(0, bad));
        }
    }

    private static void versionOn(Sentences s) {
        s.promise(15);
        s.says("Returns the version on which a user is on a day");
        SunsetDates x = with(Calendars::small, y -> y.pledge(0, 1, 500));
        s.equal("the day before the pledge's", x.versionOn(0, 499), 0);
        s.equal("the pledge's day", x.versionOn(0, 500), 1);
        s.equal("the day after", x.versionOn(0, 501), 1);
        s.untouched("versionOn", () -> with(Calendars::small, y -> y.pledge(0, 1, 5)), y -> y.versionOn(0, 5));
        s.says("`user`: number of a user");
        SunsetDates users = with(() -> CalendarSentences.sized(8, 0, 10), y -> y.pledge(0, 5, 0), y -> y.pledge(9, 6, 0));
        s.equal("0", users.versionOn(0, 0), 5);
        s.equal("9", users.versionOn(9, 0), 6);
        s.says("`day`: 0 to 999");
        SunsetDates days = with(Calendars::small, y -> y.pledge(0, 1, 999));
        s.equal("0", days.versionOn(0, 0), 0);
        s.equal("998", days.versionOn(0, 998), 0);
        s.equal("999", days.versionOn(0, 999), 1);
        s.refused(Sentences.ARGUMENT, "-1", Calendars::small, y -> y.versionOn(0, -1));
        s.refused(Sentences.ARGUMENT, "1000", Calendars::small, y -> y.versionOn(0, 1000));
        s.says("Returns the version.");
        SunsetDates first = with(Calendars::small, y -> y.pledge(0, 1, 0));
        s.equal("pledge on 0, day 0", first.versionOn(0, 0), 1);
        s.equal("pledge on 0, day 999, when it has ended", first.versionOn(0, 999), 1);
        first.takeBack(0);
        s.equal("taken back", first.versionOn(0, 999), 0);
        s.equal("7", Calendars.dearest().versionOn(9, 0), 7);
        s.says("`IndexOutOfBoundsException`");
        for (int bad : Sentences.noIndex(10)) {
            s.refused(Sentences.INDEX, "user " + bad, Calendars::full, y -> y.versionOn(bad, 0));
            s.refused(Sentences.INDEX, "user " + bad + ", day -1", Calendars::full, y -> y.versionOn(bad, -1));
            s.refused(Sentences.INDEX, "user " + bad + ", day 1000", Calendars::full, y -> y.versionOn(bad, 1000));
        }
        s.refused(Sentences.INDEX, "user 0 of none", () -> CalendarSentences.sized(1, 0, 0), y -> y.versionOn(0, 0));
        s.says("`IllegalArgumentException`");
        for (int bad : Sentences.beyond(0, 999)) {
            s.refused(Sentences.ARGUMENT, "day " + bad, Calendars::full, y -> y.versionOn(9, bad));
        }
    }

    private static void served(Sentences s) {
        s.promise(16);
        s.says("Tells how a use is served on a day");
        s.untouched("served", Calendars::full, y -> y.served(9, 3, 500));
        s.says("`user`: number of a user");
        SunsetDates x = Calendars.dearest();
        s.equal("0", x.served(0, 5, 500), 1);
        s.equal("9", x.served(9, 5, 500), 1);
        s.says("`feature`: number of a feature");
        SunsetDates features = with(Calendars::dearest, y -> y.put(0, 7, true), y -> y.put(9, 7, true));
        s.equal("0", features.served(3, 0, 0), 0);
        s.equal("1", features.served(3, 1, 0), 1);
        s.equal("9", features.served(3, 9, 0), 0);
        s.says("`day`: 0 to 999");
        SunsetDates days = Calendars.single(1, 999);
        s.equal("0", days.served(0, 0, 0), 2);
        s.equal("999", days.served(0, 0, 999), 3);
        s.refused(Sentences.ARGUMENT, "-1", Calendars::small, y -> y.served(0, 0, -1));
        s.refused(Sentences.ARGUMENT, "1000", Calendars::small, y -> y.served(0, 0, 1000));
        s.says("`IndexOutOfBoundsException`");
        for (int bad : Sentences.noIndex(10)) {
            s.refused(Sentences.INDEX, "user " + bad, Calendars::full, y -> y.served(bad, 0, 0));
            s.refused(Sentences.INDEX, "user " + bad + ", day 1000", Calendars::full, y -> y.served(bad, 0, 1000));
            s.refused(Sentences.INDEX, "feature " + bad, Calendars::full, y -> y.served(0, bad, 0));
            s.refused(Sentences.INDEX, "feature " + bad + ", day -1", Calendars::full, y -> y.served(0, bad, -1));
            s.refused(Sentences.INDEX, "user and feature " + bad, Calendars::full, y -> y.served(bad, bad, 0));
        }
        for (int bad : Sentences.noIndex(2)) {
            s.refused(Sentences.INDEX, "feature " + bad + " of two", Calendars::small, y -> y.served(0, bad, 0));
        }
        s.refused(Sentences.INDEX, "user 0 of none", () -> CalendarSentences.sized(1, 1, 0), y -> y.served(0, 0, 0));
        s.refused(Sentences.INDEX, "feature 0 of none", () -> CalendarSentences.sized(1, 0, 1), y -> y.served(0, 0, 0));
        s.says("`IllegalArgumentException`");
        for (int bad : Sentences.beyond(0, 999)) {
            s.refused(Sentences.ARGUMENT, "day " + bad, Calendars::full, y -> y.served(9, 0, bad));
            s.refused(Sentences.ARGUMENT, "not used, day " + bad, () -> with(Calendars::small, y -> y.addUser(0, 0)),
                y -> y.served(1, 0, bad));
        }
    }

    private static void servedAnswers(Sentences s) {
        s.says("Returns 0 by the version; 1 by a shim");
        SunsetDates x = with(() -> Calendars.single(10, 20), y -> y.addUser(0, 0));
        int[][] byVersion = {{0, 2}, {9, 2}, {10, 0}, {19, 0}, {20, 3}, {999, 3}};
        for (int[] it : byVersion) {
            s.equal("version from 10 to 19, day " + it[0], x.served(0, 0, it[0]), it[1]);
            s.equal("not used, day " + it[0], x.served(1, 0, it[0]), 5);
        }
        x.put(0, 0, false);
        int[][] without = {{9, 2}, {10, 4}, {19, 4}, {20, 3}};
        for (int[] it : without) {
            s.equal("without it, day " + it[0], x.served(0, 0, it[0]), it[1]);
        }
        x.addShim(0, 0, 12, 15, 1);
        int[][] byShim = {{9, 2}, {11, 4}, {12, 1}, {15, 1}, {16, 4}, {20, 3}};
        for (int[] it : byShim) {
            s.equal("shim from 12 to 15, day " + it[0], x.served(0, 0, it[0]), it[1]);
            s.equal("not used, with a shim, day " + it[0], x.served(1, 0, it[0]), 5);
        }
        x.addShim(0, 0, 0, 999, 1);
        int[][] always = {{9, 2}, {10, 1}, {19, 1}, {20, 3}};
        for (int[] it : always) {
            s.equal("shim on all days, day " + it[0], x.served(0, 0, it[0]), it[1]);
        }
        x.put(0, 0, true);
        s.equal("the version comes before the shim", x.served(0, 0, 12), 0);
        SunsetDates others = with(Calendars::bare, y -> y.addFeature(0), y -> y.addShim(1, 0, 0, 999, 1),
            y -> y.addShim(0, 1, 0, 999, 1));
        s.equal("shims for another feature and for another version", others.served(0, 0, 5), 4);
        others.pledge(0, 1, 6);
        s.equal("the day before the move", others.served(0, 0, 5), 4);
        s.equal("the day of the move", others.served(0, 0, 6), 1);
        SunsetDates late = with(() -> Calendars.single(0, 1000), y -> y.addVersion(998, 1000), y -> y.put(0, 1, true),
            y -> y.pledge(0, 1, 997));
        s.equal("moved before the release", late.served(0, 0, 997), 2);
        s.equal("on the release", late.served(0, 0, 998), 0);
    }

    private static void missing(Sentences s) {
        s.promise(17);
        s.says("Returns the set of the features of a user that are not served");
        SunsetDates x = with(Calendars::small, y -> y.addFeature(0), y -> y.addUser(1, 5), y -> y.addShim(2, 1, 60, 69, 9));
        int[][] due = {{0, 5}, {49, 5}, {50, 5}, {59, 5}, {60, 1}, {69, 1}, {70, 5}, {199, 5}, {200, 5}};
        for (int[] it : due) {
            s.equal("day " + it[0], x.missing(1, it[0]), it[1]);
        }
        s.untouched("missing", Calendars::full, y -> y.missing(9, 500));
        s.says("`user`: number of a user");
        SunsetDates users = with(() -> CalendarSentences.sized(1, 2, 0), y -> y.addUser(0, 1));
        for (int i = 1; i < 9; i++) {
            users.addUser(0, 0);
        }
        users.addUser(0, 2);
        s.equal("0", users.missing(0, 5), 1);
        s.equal("8", users.missing(8, 5), 0);
        s.equal("9", users.missing(9, 5), 2);
        s.says("`day`: 0 to 999");
        s.equal("0", Calendars.single(1, 999).missing(0, 0), 1);
        s.equal("1", Calendars.single(1, 999).missing(0, 1), 0);
        s.equal("998", Calendars.single(1, 999).missing(0, 998), 0);
        s.equal("999", Calendars.single(1, 999).missing(0, 999), 1);
        s.refused(Sentences.ARGUMENT, "-1", Calendars::small, y -> y.missing(0, -1));
        s.refused(Sentences.ARGUMENT, "1000", Calendars::small, y -> y.missing(0, 1000));
        s.says("Returns the set of features; 0 if the user is not stranded");
        s.equal("not stranded", Calendars.dearest().missing(9, 999), 0);
        s.equal("without uses, on a dead version", with(() -> Calendars.single(5, 6), y -> y.addUser(0, 0)).missing(1, 0), 0);
        s.equal("feature 9 only", with(Calendars::dearest, y -> y.dropShim(11), y -> y.dropShim(10),
            y -> y.dropShim(9)).missing(0, 0), 512);
        SunsetDates all = Calendars.dearest();
        for (int i = 0; i < 12; i++) {
            all.dropShim(0);
        }
        s.equal("all ten", all.missing(9, 999), 1023);
        s.says("`IndexOutOfBoundsException`");
        for (int bad : Sentences.noIndex(10)) {
            s.refused(Sentences.INDEX, "user " + bad, Calendars::full, y -> y.missing(bad, 0));
            s.refused(Sentences.INDEX, "user " + bad + ", day -1", Calendars::full, y -> y.missing(bad, -1));
            s.refused(Sentences.INDEX, "user " + bad + ", day 1000", Calendars::full, y -> y.missing(bad, 1000));
        }
        s.refused(Sentences.INDEX, "user 0 of none", () -> CalendarSentences.sized(1, 0, 0), y -> y.missing(0, 0));
        s.says("`IllegalArgumentException`");
        for (int bad : Sentences.beyond(0, 999)) {
            s.refused(Sentences.ARGUMENT, "day " + bad, Calendars::full, y -> y.missing(9, bad));
        }
    }

    private static void stranded(Sentences s) {
        s.promise(18);
        s.says("Returns the set of the users who are stranded on a day");
        SunsetDates x = with(Calendars::small, y -> y.addUser(1, 2), y -> y.addUser(1, 0));
        int[][] due = {{0, 2}, {49, 2}, {50, 0}, {99, 0}, {100, 1}, {199, 1}, {200, 3}, {999, 3}};
        for (int[] it : due) {
            s.equal("day " + it[0], x.stranded(it[0]), it[1]);
        }
        s.untouched("stranded", Calendars::full, y -> y.stranded(500));
        s.says("`day`: 0 to 999");
        s.equal("0", Calendars.single(1, 999).stranded(0), 1);
        s.equal("1", Calendars.single(1, 999).stranded(1), 0);
        s.equal("998", Calendars.single(1, 999).stranded(998), 0);
        s.equal("999", Calendars.single(1, 999).stranded(999), 1);
        s.refused(Sentences.ARGUMENT, "-1", Calendars::small, y -> y.stranded(-1));
        s.refused(Sentences.ARGUMENT, "1000", Calendars::small, y -> y.stranded(1000));
        s.says("Returns the set of users, bit u for the user u");
        SunsetDates users = CalendarSentences.sized(8, 1, 0);
        for (int i = 0; i < 10; i++) {
            users.addUser(0, i % 9 == 0 ? 1 : 0);
        }
        s.equal("users 0 and 9", users.stranded(0), 513);
        s.equal("without users", new SunsetDates().stranded(0), 0);
        s.equal("all of ten", Calendars.full().stranded(999), 1023);
        s.equal("none of ten", Calendars.dearest().stranded(999), 0);
        s.says("`IllegalArgumentException`");
        for (int bad : Sentences.beyond(0, 999)) {
            s.refused(Sentences.ARGUMENT, "day " + bad, Calendars::full, y -> y.stranded(bad));
            s.refused(Sentences.ARGUMENT, "without users, day " + bad, SunsetDates::new, y -> y.stranded(bad));
        }
    }

    private static void costs(Sentences s) {
        s.promise(19);
        s.says("Returns the costs of some days");
        SunsetDates x = with(Calendars::bare, y -> y.addShim(0, 0, 100, 199, 7));
        int[][] due = {{0, 999, 700}, {0, 99, 0}, {0, 100, 7}, {99, 100, 7}, {100, 100, 7}, {100, 199, 700},
            {199, 199, 7}, {199, 200, 7}, {200, 999, 0}, {150, 160, 77}};
        for (int[] it : due) {
            s.equal(it[0] + " to " + it[1], x.costs(it[0], it[1]), it[2]);
        }
        s.untouched("costs", Calendars::full, y -> y.costs(0, 999));
        s.says("`first`: the first day, 0 to 999");
        s.equal("0", Calendars.dearest().costs(0, 0), 9900);
        s.equal("999", Calendars.dearest().costs(999, 999), 9900);
        s.refused(Sentences.ARGUMENT, "-1", Calendars::full, y -> y.costs(-1, 999));
        s.refused(Sentences.ARGUMENT, "1000", Calendars::full, y -> y.costs(1000, 1000));
        s.says("`last`: the last day, first to 999");
        s.equal("0 of 0", Calendars.dearest().costs(0, 0), 9900);
        s.equal("500 of 500", Calendars.dearest().costs(500, 500), 9900);
        s.equal("999 of 500", Calendars.dearest().costs(500, 999), 4950000);
        for (int[] it : new int[][] {{0, -1}, {500, 499}, {999, 998}, {500, 1000}, {999, 1000}}) {
            s.refused(Sentences.ARGUMENT, it[0] + " to " + it[1], Calendars::full, y -> y.costs(it[0], it[1]));
        }
        s.says("`IllegalArgumentException`");
        for (int bad : Sentences.beyond(0, 999)) {
            for (Supplier<SunsetDates> made : Sentences.of(SunsetDates::new, Calendars::full)) {
                s.refused(Sentences.ARGUMENT, "first " + bad, made, y -> y.costs(bad, 999));
                s.refused(Sentences.ARGUMENT, "last " + bad, made, y -> y.costs(0, bad));
                s.refused(Sentences.ARGUMENT, "both " + bad, made, y -> y.costs(bad, bad));
            }
        }
    }

    private static void costsSum(Sentences s) {
        s.says("Returns the sum of the costs of all uses of all users on these days");
        s.equal("the most", Calendars.dearest().costs(0, 999), 9900000);
        s.equal("nobody", new SunsetDates().costs(0, 999), 0);
        SunsetDates x = with(Calendars::bare, y -> y.addFeature(0), y -> y.addShim(0, 0, 0, 999, 2),
            y -> y.addShim(1, 0, 0, 999, 30), y -> y.addUser(0, 3), y -> y.addUser(0, 2), y -> y.addUser(1, 3));
        s.equal("each use of each user", x.costs(5, 5), 2 + 32 + 30);
        x.addShim(1, 1, 5, 5, 99);
        s.equal("also of a user who is stranded by another use", x.costs(5, 5), 2 + 32 + 30 + 99);
        x.pledge(0, 1, 6);
        s.equal("no shim there after the move", x.costs(5, 6), 2 + 32 + 30 + 99 + 32 + 30);
        SunsetDates dead = Calendars.shimmed10To20();
        s.equal("only while the version is alive", dead.costs(0, 999), 50);
        s.equal("its first day", dead.costs(9, 10), 5);
        s.equal("its last day", dead.costs(19, 20), 5);
    }

    private static void value(Sentences s) {
        s.promise(20);
        s.says("Returns a number");
        for (int what = 0; what <= 7; what++) {
            int it = what;
            s.untouched("value", Calendars::full, y -> y.value(it));
        }
        s.says("Returns that number");
        int[] most = {8, 10, 10, 12, 10, 100, 11, 0};
        SunsetDates x = Calendars.dearest();
        for (int i = 0; i < 10; i++) {
            x.pledge(i, 7, i);
            x.slip(i, 1);
        }
        x.slip(9, 1);
        for (int what = 0; what <= 7; what++) {
            s.equal("most, " + what, x.value(what), most[what]);
            s.equal("empty, " + what, new SunsetDates().value(what), 0);
        }
        for (int i = 0; i < 12; i++) {
            x.dropShim(0);
        }
        s.equal("shims", x.value(3), 0);
        s.equal("all days", x.value(7), 1000);
        s.says("`IllegalArgumentException`");
        for (int bad : Sentences.beyond(0, 7)) {
            s.refused(Sentences.ARGUMENT, "what " + bad, Calendars::full, y -> y.value(bad));
            s.refused(Sentences.ARGUMENT, "empty, what " + bad, SunsetDates::new, y -> y.value(bad));
        }
    }

    private static void valueOfEach(Sentences s) {
        s.says("`what`: 0 the versions");
        SunsetDates x = with(Calendars::small, y -> y.addVersion(0, 1), y -> y.addVersion(0, 1), y -> y.addFeature(0),
            y -> y.addUser(0, 3), y -> y.addShim(0, 1, 0, 0, 1), y -> y.pledge(1, 0, 0));
        int[] due = {4, 3, 2, 1, 1, 4, 0, 900};
        for (int what = 0; what <= 7; what++) {
            s.equal("value(" + what + ")", x.value(what), due[what]);
        }
        x.pledge(1, 1, 5);
        s.equal("the same user pledges again", x.value(4), 1);
        x.slip(1, 1);
        x.takeBack(1);
        s.equal("nobody pledges any more", x.value(4), 0);
        s.equal("the slip of a pledge taken back", x.value(6), 1);
        int[][] spans = {{0, 1000, 0}, {1, 1000, 1}, {0, 999, 1}, {1, 999, 2}, {0, 1, 999}, {998, 999, 999}};
        for (int[] it : spans) {
            s.equal("days outside of " + it[0] + " to " + it[1], Calendars.single(it[0], it[1]).value(7), it[2]);
        }
        SunsetDates two = with(() -> Calendars.single(10, 1000), y -> y.addVersion(5, 995), y -> y.addUser(1, 1),
            y -> y.put(0, 1, true));
        s.equal("a day on which two are stranded counts once", two.value(7), 15);
        s.equal("users without uses are not stranded", CalendarSentences.sized(1, 1, 3).value(7), 0);
        s.refused(Sentences.ARGUMENT, "-1", Calendars::full, y -> y.value(-1));
        s.refused(Sentences.ARGUMENT, "8", Calendars::full, y -> y.value(8));
    }

    private ValueSentences() { }
}
