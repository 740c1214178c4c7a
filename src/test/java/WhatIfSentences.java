import java.util.function.Supplier;

/** Promises 21 to 26, sentence by sentence. */
final class WhatIfSentences {
    static void tell(Sentences s) {
        firstStranded(s);
        latestMove(s);
        latestMoveAnswers(s);
        latestMoveRefused(s);
        bestVersion(s);
        cheapest(s);
        cheapestAnswers(s);
        cheapestRefused(s);
        shimsNeeded(s);
        share(s);
    }

    private static SunsetDates with(Supplier<SunsetDates> made, Check.Call... calls) {
        return CalendarSentences.with(made, calls);
    }

    private static void firstStranded(Sentences s) {
        s.promise(21);
        s.says("Finds the first day on which a user is stranded");
        SunsetDates x = with(() -> Calendars.single(10, 20), y -> y.addVersion(20, 30), y -> y.put(0, 1, true));
        int[][] due = {{0, 0}, {9, 9}, {10, 20}, {19, 20}, {20, 20}, {21, 21}, {999, 999}};
        for (int[] it : due) {
            s.equal("from " + it[0], x.firstStranded(0, it[0]), it[1]);
        }
        x.pledge(0, 1, 20);
        s.equal("moved on the end", x.firstStranded(0, 10), 30);
        x.pledge(0, 1, 19);
        s.equal("moved a day too early", x.firstStranded(0, 10), 19);
        x.pledge(0, 1, 21);
        s.equal("moved a day too late", x.firstStranded(0, 10), 20);
        s.equal("moved a day too late, from then on", x.firstStranded(0, 21), 30);
        SunsetDates shims = with(Calendars::bare, y -> y.addShim(0, 0, 0, 50, 1), y -> y.addShim(0, 0, 52, 998, 1));
        s.equal("behind a shim", shims.firstStranded(0, 0), 51);
        s.equal("behind the other one", shims.firstStranded(0, 52), 999);
        s.untouched("firstStranded", Calendars::full, y -> y.firstStranded(9, 0));
        s.says("`user`: number of a user");
        SunsetDates users = CalendarSentences.sized(1, 1, 0);
        for (int i = 0; i < 10; i++) {
            users.addUser(0, i % 9 == 0 ? 1 : 0);
        }
        s.equal("0", users.firstStranded(0, 7), 7);
        s.equal("1", users.firstStranded(1, 7), SunsetDates.NONE);
        s.equal("9", users.firstStranded(9, 7), 7);
        s.says("`from`: the day from which on, 0 to 999");
        s.equal("0", Calendars.single(0, 999).firstStranded(0, 0), 999);
        s.equal("999", Calendars.single(0, 999).firstStranded(0, 999), 999);
        s.refused(Sentences.ARGUMENT, "-1", Calendars::small, y -> y.firstStranded(0, -1));
        s.refused(Sentences.ARGUMENT, "1000", Calendars::small, y -> y.firstStranded(0, 1000));
        s.says("Returns the day, from or later; NONE if there is none");
        s.equal("none", Calendars.single(0, 1000).firstStranded(0, 0), SunsetDates.NONE);
        s.equal("none on 999", Calendars.single(998, 1000).firstStranded(0, 999), SunsetDates.NONE);
        s.equal("only before", Calendars.single(998, 1000).firstStranded(0, 998), SunsetDates.NONE);
        s.equal("the last day before", Calendars.single(998, 1000).firstStranded(0, 997), 997);
        s.equal("without uses", with(() -> Calendars.single(5, 6), y -> y.addUser(0, 0)).firstStranded(1, 0),
            SunsetDates.NONE);
        s.equal("0", Calendars.single(1, 1000).firstStranded(0, 0), 0);
        s.says("`IndexOutOfBoundsException`");
        for (int bad : Sentences.noIndex(10)) {
            s.refused(Sentences.INDEX, "user " + bad, Calendars::full, y -> y.firstStranded(bad, 0));
            s.refused(Sentences.INDEX, "user " + bad + ", from -1", Calendars::full, y -> y.firstStranded(bad, -1));
            s.refused(Sentences.INDEX, "user " + bad + ", from 1000", Calendars::full, y -> y.firstStranded(bad, 1000));
        }
        s.refused(Sentences.INDEX, "user 0 of none", SunsetDates::new, y -> y.firstStranded(0, 0));
        s.says("`IllegalArgumentException`");
        for (int bad : Sentences.beyond(0, 999)) {
            s.refused(Sentences.ARGUMENT, "from " + bad, Calendars::full, y -> y.firstStranded(9, bad));
        }
    }

    /** A first version on the days 0 to 299, and one from there on, both with the one feature. */
    private static SunsetDates relay(int release, int end) {
        return with(() -> Calendars.single(0, 300), y -> y.addVersion(release, end), y -> y.put(0, 1, true));
    }

    private static void latestMove(Sentences s) {
        s.promise(22);
        s.says("Finds the latest day with which a pledge of a user for a version, in place of the present one");
        s.equal("released early", relay(0, 1000).latestMove(0, 1, 0), 300);
        s.equal("released just in time", relay(300, 1000).latestMove(0, 1, 0), 300);
        s.equal("released a day too late", relay(301, 1000).latestMove(0, 1, 0), SunsetDates.NONE);
        s.equal("ended a day too early", relay(0, 999).latestMove(0, 1, 0), SunsetDates.NONE);
        s.equal("stranded the day before the given one", relay(301, 1000).latestMove(0, 1, 301), 301);
        s.equal("stranded on the given day", relay(301, 1000).latestMove(0, 1, 300), SunsetDates.NONE);
        SunsetDates x = with(() -> relay(0, 1000), y -> y.addVersion(0, 1), y -> y.pledge(0, 2, 0));
        s.equal("in place of a bad pledge", x.latestMove(0, 1, 0), 300);
        x.pledge(0, 1, 100);
        s.equal("in place of a good one: the days before are on the first version", x.latestMove(0, 1, 0), 300);
        s.equal("for a bad version in place of a good one", x.latestMove(0, 2, 0), SunsetDates.NONE);
        s.untouched("latestMove", () -> with(() -> relay(0, 1000), y -> y.pledge(0, 1, 9)), y -> y.latestMove(0, 1, 0));
        SunsetDates shims = with(Calendars::bare, y -> y.addShim(0, 0, 0, 400, 1), y -> y.addShim(0, 1, 401, 999, 1));
        s.equal("from shim to shim", shims.latestMove(0, 1, 0), 401);
        shims.addShim(0, 0, 402, 999, 1);
        s.equal("a gap in the first version's shims", shims.latestMove(0, 1, 0), 401);
        s.equal("from behind this gap", shims.latestMove(0, 1, 402), 999);
        shims.dropShim(1);
        shims.addShim(0, 1, 402, 999, 1);
        s.equal("the other one begins a day behind the gap", shims.latestMove(0, 1, 0), SunsetDates.NONE);
        s.equal("the other one, from its first day", shims.latestMove(0, 1, 402), 999);
        shims.addShim(0, 1, 0, 400, 1);
        s.equal("a gap in the other version's shims on the day of the move", shims.latestMove(0, 1, 0),
            SunsetDates.NONE);
        SunsetDates gaps = with(() -> Calendars.single(0, 12), y -> y.addVersion(0, 1000), y -> y.addShim(0, 1, 0, 9, 1),
            y -> y.addShim(0, 1, 11, 999, 1));
        s.equal("gaps of one day: from behind the other one's gap on the first one's end", gaps.latestMove(0, 1, 0), 12);
        SunsetDates eleven = with(() -> Calendars.single(0, 11), y -> y.addVersion(0, 1000), y -> y.addShim(0, 1, 0, 9, 1),
            y -> y.addShim(0, 1, 11, 999, 1));
        s.equal("the gap ends on the day of the move", eleven.latestMove(0, 1, 0), 11);
        SunsetDates twelve = with(() -> Calendars.single(0, 11), y -> y.addVersion(0, 1000), y -> y.addVersion(10, 20),
            y -> y.addShim(0, 1, 0, 10, 1), y -> y.addShim(0, 1, 12, 999, 1));
        s.equal("the gap is the day of the move, behind another change", twelve.latestMove(0, 1, 0), SunsetDates.NONE);
    }

    private static void latestMoveAnswers(Sentences s) {
        s.says("`user`: number of a user");
        SunsetDates users = with(() -> relay(0, 1000), y -> y.addFeature(0));
        for (int i = 1; i < 9; i++) {
            users.addUser(0, 2);
        }
        users.addUser(1, 1);
        s.equal("0", users.latestMove(0, 1, 0), 300);
        s.equal("8", users.latestMove(8, 1, 0), SunsetDates.NONE);
        s.equal("9", users.latestMove(9, 1, 0), 999);
        s.says("`version`: number of a version");
        SunsetDates versions = with(() -> Calendars.single(0, 1000));
        for (int i = 1; i < 8; i++) {
            versions.addVersion(0, 1000);
        }
        versions.put(0, 7, true);
        s.equal("0", versions.latestMove(0, 0, 0), 999);
        s.equal("6", versions.latestMove(0, 6, 0), SunsetDates.NONE);
        s.equal("7", versions.latestMove(0, 7, 0), 999);
        s.says("`from`: the given day, 0 to 999");
        s.equal("0", relay(0, 1000).latestMove(0, 1, 0), 300);
        s.equal("299", relay(0, 1000).latestMove(0, 1, 299), 300);
        s.equal("300", relay(0, 1000).latestMove(0, 1, 300), 300);
        s.equal("301", relay(0, 1000).latestMove(0, 1, 301), 301);
        s.equal("999", relay(0, 1000).latestMove(0, 1, 999), 999);
        s.refused(Sentences.ARGUMENT, "-1", Calendars::small, y -> y.latestMove(0, 1, -1));
        s.refused(Sentences.ARGUMENT, "1000", Calendars::small, y -> y.latestMove(0, 1, 1000));
        s.says("Returns the latest day of such a pledge, from to 999; NONE if there is none");
        s.equal("day 0", with(() -> Calendars.single(1, 1000), y -> y.addVersion(0, 1000), y -> y.put(0, 1, true))
            .latestMove(0, 1, 0), 0);
        s.equal("day 999", Calendars.single(0, 1000).latestMove(0, 0, 0), 999);
        s.equal("day 999, when the first version has ended on it", with(() -> Calendars.single(0, 999),
            y -> y.addVersion(998, 1000), y -> y.put(0, 1, true)).latestMove(0, 1, 0), 999);
        s.equal("not beyond 999", with(() -> Calendars.single(0, 1000), y -> y.addVersion(0, 999),
            y -> y.put(0, 1, true)).latestMove(0, 1, 0), SunsetDates.NONE);
        s.equal("none", Calendars.single(0, 999).latestMove(0, 0, 0), SunsetDates.NONE);
        s.equal("none on 999", Calendars.single(0, 999).latestMove(0, 0, 999), SunsetDates.NONE);
        s.equal("without uses", with(() -> Calendars.single(5, 6), y -> y.addUser(0, 0)).latestMove(1, 0, 0), 999);
    }

    private static void latestMoveRefused(Sentences s) {
        s.says("`IndexOutOfBoundsException`");
        for (int bad : Sentences.noIndex(10)) {
            s.refused(Sentences.INDEX, "user " + bad, Calendars::full, y -> y.latestMove(bad, 0, 0));
            s.refused(Sentences.INDEX, "user " + bad + ", from -1", Calendars::full, y -> y.latestMove(bad, 7, -1));
            s.refused(Sentences.INDEX, "user and version " + bad, Calendars::full, y -> y.latestMove(bad, bad, 0));
        }
        for (int bad : Sentences.noIndex(8)) {
            s.refused(Sentences.INDEX, "version " + bad, Calendars::full, y -> y.latestMove(9, bad, 0));
            s.refused(Sentences.INDEX, "version " + bad + ", from 1000", Calendars::full, y -> y.latestMove(0, bad, 1000));
        }
        s.refused(Sentences.INDEX, "user 0 of none", () -> CalendarSentences.sized(1, 0, 0), y -> y.latestMove(0, 0, 0));
        s.says("`IllegalArgumentException`");
        for (int bad : Sentences.beyond(0, 999)) {
            s.refused(Sentences.ARGUMENT, "from " + bad, Calendars::full, y -> y.latestMove(9, 7, bad));
        }
    }

    private static void bestVersion(Sentences s) {
        s.promise(23);
        s.says("Finds the version on which the most features of a user would be served");
        SunsetDates x = with(() -> CalendarSentences.sized(8, 10, 0), y -> y.addUser(0, 7), y -> y.put(0, 3, true),
            y -> y.put(3, 2, true), y -> y.put(4, 2, true), y -> y.put(5, 2, true));
        s.equal("one of its features is more than three that it does not use", x.bestVersion(0, 500), 3);
        x.addShim(0, 5, 10, 20, 1);
        x.addShim(1, 5, 10, 20, 1);
        s.equal("two by shims, before their first day", x.bestVersion(0, 9), 3);
        s.equal("two by shims, on their first day", x.bestVersion(0, 10), 5);
        s.equal("two by shims, on their last day", x.bestVersion(0, 20), 5);
        s.equal("two by shims, the day after", x.bestVersion(0, 21), 3);
        x.put(0, 5, true);
        x.put(2, 3, true);
        s.equal("by both the version and a shim counts once: two on each", x.bestVersion(0, 10), 3);
        x.put(2, 5, true);
        s.equal("three are more than two", x.bestVersion(0, 10), 5);
        s.untouched("bestVersion", Calendars::full, y -> y.bestVersion(9, 500));
        s.says("`user`: number of a user");
        SunsetDates users = CalendarSentences.sized(3, 2, 0);
        users.put(0, 1, true);
        users.put(1, 2, true);
        for (int i = 0; i < 10; i++) {
            users.addUser(0, i == 0 ? 1 : i == 9 ? 2 : 0);
        }
        s.equal("0", users.bestVersion(0, 500), 1);
        s.equal("8", users.bestVersion(8, 500), 0);
        s.equal("9", users.bestVersion(9, 500), 2);
        s.says("`day`: 0 to 999");
        SunsetDates days = with(() -> Calendars.single(0, 1000), y -> y.addVersion(1, 999), y -> y.put(0, 1, true),
            y -> y.put(0, 0, false));
        int[][] due = {{0, 0}, {1, 1}, {998, 1}, {999, 0}};
        for (int[] it : due) {
            s.equal("day " + it[0], days.bestVersion(0, it[0]), it[1]);
        }
        s.refused(Sentences.ARGUMENT, "-1", Calendars::small, y -> y.bestVersion(0, -1));
        s.refused(Sentences.ARGUMENT, "1000", Calendars::small, y -> y.bestVersion(0, 1000));
        s.says("Returns the version, of several the lowest one; NONE if no version is alive on this day");
        s.equal("all alike", Calendars.bare().bestVersion(0, 0), 0);
        s.equal("nothing is served, only the higher one is alive", with(() -> Calendars.single(5, 6),
            y -> y.addVersion(0, 1000)).bestVersion(0, 0), 1);
        s.equal("without uses, only the higher one is alive", with(() -> Calendars.single(5, 6),
            y -> y.addVersion(0, 1000), y -> y.addUser(0, 0)).bestVersion(1, 6), 1);
        s.equal("the highest one", Calendars.dearest().bestVersion(0, 0), 7);
        int[][] alive = {{9, -1}, {10, 0}, {19, 0}, {20, -1}};
        for (int[] it : alive) {
            s.equal("alive from 10 to 19, day " + it[0], Calendars.single(10, 20).bestVersion(0, it[0]), it[1]);
            s.equal("by a shim, alive from 10 to 19, day " + it[0], Calendars.shimmed10To20().bestVersion(0, it[0]), it[1]);
        }
        s.says("`IndexOutOfBoundsException`");
        for (int bad : Sentences.noIndex(10)) {
            s.refused(Sentences.INDEX, "user " + bad, Calendars::full, y -> y.bestVersion(bad, 0));
            s.refused(Sentences.INDEX, "user " + bad + ", day -1", Calendars::full, y -> y.bestVersion(bad, -1));
            s.refused(Sentences.INDEX, "user " + bad + ", day 1000", Calendars::full, y -> y.bestVersion(bad, 1000));
        }
        s.refused(Sentences.INDEX, "user 0 of none", SunsetDates::new, y -> y.bestVersion(0, 0));
        s.says("`IllegalArgumentException`");
        for (int bad : Sentences.beyond(0, 999)) {
            s.refused(Sentences.ARGUMENT, "day " + bad, Calendars::full, y -> y.bestVersion(9, bad));
        }
    }

    private static void cheapest(Sentences s) {
        s.promise(24);
        s.says("Finds the version on which a user would have the least costs");
        SunsetDates x = with(Calendars::bare, y -> y.addShim(0, 0, 0, 999, 9), y -> y.addShim(0, 1, 0, 999, 8));
        s.equal("8 is less than 9", x.cheapest(0, 0, 999), 1);
        x.addShim(0, 0, 500, 500, 1);
        s.equal("1 is less than 8", x.cheapest(0, 500, 500), 0);
        s.equal("one day, on which the other one is cheaper", x.cheapest(0, 499, 499), 1);
        s.equal("1 + 9 is less than 8 + 8", x.cheapest(0, 500, 501), 0);
        s.equal("9 + 1, the last day counts", x.cheapest(0, 499, 500), 0);
        s.equal("1 + 9 and six times 9 are as much as eight times 8", x.cheapest(0, 494, 501), 0);
        s.equal("1 + 9 and seven times 9 are more than nine times 8", x.cheapest(0, 494, 502), 1);
        x.pledge(0, 0, 0);
        s.equal("whatever the pledge is", x.cheapest(0, 494, 502), 1);
        x.pledge(0, 1, 0);
        s.equal("and also if it is the other way round", x.cheapest(0, 500, 501), 0);
        SunsetDates without = with(() -> Calendars.single(5, 6), y -> y.addVersion(0, 1000), y -> y.addUser(1, 0));
        s.equal("a user without uses, on a version that is not alive", without.cheapest(1, 0, 999), 0);
        s.equal("a user without uses, on a version that has ended", without.cheapest(1, 999, 999), 0);
        s.untouched("cheapest", Calendars::full, y -> y.cheapest(9, 0, 999));
        s.says("`user`: number of a user");
        SunsetDates users = CalendarSentences.sized(3, 2, 0);
        users.put(0, 1, true);
        users.put(1, 2, true);
        for (int i = 0; i < 10; i++) {
            users.addUser(0, i == 0 ? 1 : i == 9 ? 2 : 0);
        }
        s.equal("0", users.cheapest(0, 500, 500), 1);
        s.equal("8", users.cheapest(8, 500, 500), 0);
        s.equal("9", users.cheapest(9, 500, 500), 2);
        s.says("`first`: the first day, 0 to 999");
        s.equal("0", Calendars.single(0, 1).cheapest(0, 0, 0), 0);
        s.equal("999", Calendars.single(998, 1000).cheapest(0, 999, 999), 0);
        s.refused(Sentences.ARGUMENT, "-1", Calendars::small, y -> y.cheapest(0, -1, 999));
        s.refused(Sentences.ARGUMENT, "1000", Calendars::small, y -> y.cheapest(0, 1000, 1000));
        s.says("`last`: the last day, first to 999");
        s.equal("999 of 0", Calendars.single(0, 1000).cheapest(0, 0, 999), 0);
        s.equal("500 of 500", Calendars.single(500, 501).cheapest(0, 500, 500), 0);
        for (int[] it : new int[][] {{0, -1}, {500, 499}, {999, 998}, {500, 1000}, {999, 1000}}) {
            s.refused(Sentences.ARGUMENT, it[0] + " to " + it[1], Calendars::full, y -> y.cheapest(0, it[0], it[1]));
        }
    }

    private static void cheapestAnswers(Sentences s) {
        s.says("Returns the version with which the user is not stranded on any of these days");
        SunsetDates x = Calendars.single(10, 20);
        int[][] due = {{10, 19, 0}, {9, 19, -1}, {10, 20, -1}, {9, 9, -1}, {20, 20, -1}, {10, 10, 0}, {19, 19, 0}};
        for (int[] it : due) {
            s.equal("alive, " + it[0] + " to " + it[1], x.cheapest(0, it[0], it[1]), it[2]);
        }
        SunsetDates shim = with(Calendars::bare, y -> y.addShim(0, 1, 10, 19, 99));
        for (int[] it : due) {
            s.equal("shim, " + it[0] + " to " + it[1], shim.cheapest(0, it[0], it[1]), it[2] == 0 ? 1 : -1);
        }
        SunsetDates two = with(Calendars::bare, y -> y.addFeature(1), y -> y.addUser(0, 3), y -> y.addShim(0, 0, 0, 999, 5),
            y -> y.addShim(0, 1, 0, 999, 1));
        s.equal("stranded by one of two uses", two.cheapest(1, 0, 999), 0);
        two.addShim(1, 1, 0, 999, 3);
        s.equal("1 + 3 is less than 5", two.cheapest(1, 0, 999), 1);
        two.addShim(1, 1, 0, 999, 4);
        two.addShim(0, 1, 0, 999, 2);
        s.equal("the dearer ones do not count", two.cheapest(1, 0, 999), 1);
        two.dropShim(2);
        s.equal("1 + 4 is as much as 5: the lowest one", two.cheapest(1, 0, 999), 0);
        s.equal("the most costs that one user can have", Calendars.dearest().cheapest(9, 0, 999), 7);
        SunsetDates free = with(Calendars::dearest, y -> y.dropShim(0));
        s.equal("none for all uses", free.cheapest(9, 0, 999), SunsetDates.NONE);
        s.equal("no costs, several", with(Calendars::bare, y -> y.put(0, 0, true), y -> y.put(0, 1, true),
            y -> y.addShim(0, 0, 0, 999, 9)).cheapest(0, 0, 999), 0);
    }

    private static void cheapestRefused(Sentences s) {
        s.says("`IndexOutOfBoundsException`");
        for (int bad : Sentences.noIndex(10)) {
            s.refused(Sentences.INDEX, "user " + bad, Calendars::full, y -> y.cheapest(bad, 0, 0));
            s.refused(Sentences.INDEX, "user " + bad + ", first -1", Calendars::full, y -> y.cheapest(bad, -1, 0));
            s.refused(Sentences.INDEX, "user " + bad + ", last 1000", Calendars::full, y -> y.cheapest(bad, 5, 1000));
            s.refused(Sentences.INDEX, "user " + bad + ", 5 to 4", Calendars::full, y -> y.cheapest(bad, 5, 4));
        }
        s.refused(Sentences.INDEX, "user 0 of none", SunsetDates::new, y -> y.cheapest(0, 0, 0));
        s.says("`IllegalArgumentException`");
        for (int bad : Sentences.beyond(0, 999)) {
            s.refused(Sentences.ARGUMENT, "first " + bad, Calendars::full, y -> y.cheapest(9, bad, 999));
            s.refused(Sentences.ARGUMENT, "last " + bad, Calendars::full, y -> y.cheapest(9, 0, bad));
            s.refused(Sentences.ARGUMENT, "both " + bad, Calendars::full, y -> y.cheapest(9, bad, bad));
        }
    }

    private static void shimsNeeded(Sentences s) {
        s.promise(25);
        s.says("Tells how many shims would be needed more");
        SunsetDates x = with(() -> Calendars.single(10, 20), y -> y.put(0, 0, false));
        int[][] due = {{0, 0}, {9, 0}, {10, 1}, {19, 1}, {20, 0}, {999, 0}};
        for (int[] it : due) {
            s.equal("as far as versions are alive, day " + it[0], x.shimsNeeded(it[0]), it[1]);
        }
        x.addShim(0, 0, 12, 15, 1);
        int[][] then = {{10, 1}, {11, 1}, {12, 0}, {15, 0}, {16, 1}, {19, 1}, {20, 0}};
        for (int[] it : then) {
            s.equal("with a shim, day " + it[0], x.shimsNeeded(it[0]), it[1]);
        }
        s.untouched("shimsNeeded", Calendars::full, y -> y.shimsNeeded(500));
        s.says("`day`: 0 to 999");
        s.equal("0", Calendars.bare().shimsNeeded(0), 1);
        s.equal("999", Calendars.bare().shimsNeeded(999), 1);
        s.refused(Sentences.ARGUMENT, "-1", Calendars::small, y -> y.shimsNeeded(-1));
        s.refused(Sentences.ARGUMENT, "1000", Calendars::small, y -> y.shimsNeeded(1000));
        s.says("Returns the number of different pairs of a feature and a version");
        SunsetDates pairs = with(Calendars::bare, y -> y.addFeature(0), y -> y.addUser(0, 1));
        s.equal("two users, one pair", pairs.shimsNeeded(5), 1);
        pairs.addUser(0, 2);
        s.equal("another feature", pairs.shimsNeeded(5), 2);
        pairs.addUser(1, 3);
        s.equal("another version", pairs.shimsNeeded(5), 4);
        pairs.pledge(0, 1, 6);
        s.equal("moved to a pair that is there", pairs.shimsNeeded(6), 4);
        pairs.pledge(1, 1, 6);
        s.equal("a pair of which all have moved away", pairs.shimsNeeded(6), 3);
        s.equal("the day before", pairs.shimsNeeded(5), 4);
        s.equal("without users", CalendarSentences.sized(8, 10, 0).shimsNeeded(500), 0);
        s.equal("no uses", CalendarSentences.sized(8, 10, 10).shimsNeeded(500), 0);
        SunsetDates most = CalendarSentences.sized(8, 10, 0);
        for (int i = 0; i < 10; i++) {
            most.addUser(i % 8, 1023);
        }
        s.equal("all pairs", most.shimsNeeded(500), 80);
        s.equal("some are not released", most.shimsNeeded(3), 40);
        s.equal("some have ended", most.shimsNeeded(996), 40);
        s.says("`IllegalArgumentException`");
        for (int bad : Sentences.beyond(0, 999)) {
            s.refused(Sentences.ARGUMENT, "day " + bad, Calendars::full, y -> y.shimsNeeded(bad));
            s.refused(Sentences.ARGUMENT, "empty, day " + bad, SunsetDates::new, y -> y.shimsNeeded(bad));
        }
    }

    private static void share(Sentences s) {
        s.promise(26);
        s.says("Returns the share of the uses that are served on a day");
        SunsetDates x = with(Calendars::small, y -> y.addUser(1, 2), y -> y.addShim(0, 1, 100, 149, 9),
            y -> y.pledge(0, 1, 120));
        double[][] due = {{49, 2.0 / 3.0}, {50, 1.0}, {99, 1.0}, {100, 1.0 / 3.0}, {119, 1.0 / 3.0}, {120, 1.0},
            {149, 1.0}, {150, 2.0 / 3.0}, {199, 2.0 / 3.0}, {200, 0.0}};
        for (double[] it : due) {
            s.equal("day " + it[0], x.share((int) it[0]), it[1]);
        }
        s.untouched("share", Calendars::full, y -> (long) y.share(500));
        s.says("`day`: 0 to 999");
        s.equal("0", Calendars.single(1, 999).share(0), 0.0);
        s.equal("1", Calendars.single(1, 999).share(1), 1.0);
        s.equal("998", Calendars.single(1, 999).share(998), 1.0);
        s.equal("999", Calendars.single(1, 999).share(999), 0.0);
        s.refused(Sentences.ARGUMENT, "-1", Calendars::small, y -> (long) y.share(-1));
        s.refused(Sentences.ARGUMENT, "1000", Calendars::small, y -> (long) y.share(1000));
        s.says("Returns the uses that are served, converted to double");
        s.equal("nobody", new SunsetDates().share(0), 1.0);
        s.equal("users without uses", CalendarSentences.sized(1, 1, 10).share(999), 1.0);
        SunsetDates many = Calendars.dearest();
        s.equal("100 of 100", many.share(500), 1.0);
        for (int left = 9; left >= 0; left--) {
            many.dropShim(0);
            if (left == 1) {
                many.dropShim(2);
                many.dropShim(1);
            }
            s.equal(10 * left + " of 100", many.share(500), (double) (10 * left) / 100.0);
        }
        for (int served = 0; served <= 7; served++) {
            SunsetDates seven = with(() -> CalendarSentences.sized(1, 7, 0), y -> y.addUser(0, 127));
            for (int i = 0; i < served; i++) {
                seven.put(i, 0, true);
            }
            s.equal(served + " of 7", seven.share(500), (double) served / (double) 7);
        }
        s.says("`IllegalArgumentException`");
        for (int bad : Sentences.beyond(0, 999)) {
            s.refused(Sentences.ARGUMENT, "day " + bad, Calendars::full, y -> (long) y.share(bad));
            s.refused(Sentences.ARGUMENT, "without uses, day " + bad, SunsetDates::new, y -> (long) y.share(bad));
        }
    }

    private WhatIfSentences() { }
}
