/** Promises 21 to 26: the what-if questions. */
final class WhatIfTest {
    private static final Class<IndexOutOfBoundsException> INDEX = IndexOutOfBoundsException.class;
    private static final Class<IllegalArgumentException> ARGUMENT = IllegalArgumentException.class;
    private static final int MIN = Integer.MIN_VALUE;
    private static final int MAX = Integer.MAX_VALUE;

    private static final Check check = new Check("WhatIfTest");

    public static void main(String[] args) {
        firstStranded();
        latestMove();
        latestMoveRefused();
        bestVersion();
        cheapest();
        shimsNeeded();
        share();
        check.finish();
    }

    private static void firstStranded() {
        SunsetDates x = Calendars.small();
        x.addUser(1, 3);
        x.addUser(0, 0);
        check.equal("from 0", x.firstStranded(0, 0), 100);
        check.equal("from 100", x.firstStranded(0, 100), 100);
        check.equal("from 101", x.firstStranded(0, 101), 101);
        check.equal("from 999", x.firstStranded(0, 999), 999);
        check.equal("not released yet", x.firstStranded(1, 0), 0);
        check.equal("without uses", x.firstStranded(2, 0), -1);
        x.addShim(0, 1, 50, 150, 1);
        check.equal("still not released", x.firstStranded(1, 10), 10);
        check.equal("the end of the shim", x.firstStranded(1, 50), 151);
        x.pledge(0, 1, 100);
        check.equal("moved in time", x.firstStranded(0, 0), 151);
        x.extend(1, 99);
        x.addVersion(0, 1000);
        x.put(0, 2, true);
        x.put(1, 2, true);
        x.pledge(0, 2, 100);
        check.equal("never", x.firstStranded(0, 0), -1);
        x.addShim(0, 0, 0, 0, 1);
        check.equal("never, from 999", x.firstStranded(0, 999), -1);
        x.put(0, 2, false);
        x.addShim(0, 2, 0, 998, 1);
        check.equal("on the last day only", x.firstStranded(0, 0), 999);
        SunsetDates gap = new SunsetDates();
        gap.addVersion(0, 1000);
        gap.addVersion(0, 1000);
        gap.addFeature(0);
        gap.addUser(0, 1);
        gap.addShim(0, 0, 0, 10, 1);
        gap.addShim(0, 0, 11, 11, 1);
        gap.addShim(0, 0, 13, 999, 1);
        check.equal("a gap of one day", gap.firstStranded(0, 0), 12);
        check.equal("behind the gap", gap.firstStranded(0, 13), -1);
        check.equal("days stranded", gap.value(7), 1);
        gap.addShim(0, 1, 12, 999, 1);
        check.equal("a move in the gap", gap.latestMove(0, 1, 0), 12);
        gap.dropShim(3);
        gap.addShim(0, 1, 13, 999, 1);
        check.equal("a move that is too late for the gap", gap.latestMove(0, 1, 0), -1);
        for (int bad : new int[] {-1, 3, MIN, MAX}) {
            check.refused("firstStranded(" + bad + ", 1000)", INDEX, x, y -> y.firstStranded(bad, 1000));
        }
        for (int bad : new int[] {-1, 1000, MIN, MAX}) {
            check.refused("firstStranded(0, " + bad + ")", ARGUMENT, x, y -> y.firstStranded(0, bad));
        }
    }

    private static void latestMove() {
        SunsetDates x = new SunsetDates();
        x.addVersion(0, 300);
        x.addVersion(200, 1000);
        x.addVersion(300, 1000);
        x.addVersion(301, 1000);
        x.addVersion(0, 999);
        x.addFeature(31);
        x.addUser(0, 1);
        check.equal("the day on which the first version ends", x.latestMove(0, 1, 0), 300);
        check.equal("just in time", x.latestMove(0, 2, 0), 300);
        check.equal("too late by a day", x.latestMove(0, 3, 0), -1);
        check.equal("the other ends a day too early", x.latestMove(0, 4, 0), -1);
        check.equal("the first version is no help", x.latestMove(0, 0, 0), -1);
        check.equal("from the end on", x.latestMove(0, 1, 300), 300);
        check.equal("from the day behind it on", x.latestMove(0, 1, 301), 301);
        check.equal("days before do not matter", x.latestMove(0, 3, 301), 301);
        check.equal("from 999", x.latestMove(0, 2, 999), 999);
        check.equal("from 300, too late by a day", x.latestMove(0, 3, 300), -1);
        x.pledge(0, 4, 0);
        check.equal("in place of the present pledge", x.latestMove(0, 1, 0), 300);
        check.equal("the present pledge stays", x.user(0, 2), 4);
        x.addShim(0, 0, 250, 400, 1);
        check.equal("a shim is no help when the version has ended", x.latestMove(0, 1, 0), 300);
        x.put(0, 0, false);
        check.equal("the first version is without it until the shim's first day", x.latestMove(0, 1, 0), -1);
        check.equal("from the shim's first day on", x.latestMove(0, 1, 250), 300);
        x.put(0, 1, false);
        x.addShim(0, 1, 299, 999, 1);
        check.equal("the other version by its shim", x.latestMove(0, 1, 250), 300);
        x.addUser(1, 0);
        check.equal("without uses", x.latestMove(1, 0, 0), 999);
        x.addUser(2, 1);
        check.equal("never stranded on the first version, the other fine on 999", x.latestMove(2, 3, 300), 999);
        check.equal("never stranded on the first version, the other not fine on 999", x.latestMove(2, 4, 300), -1);
    }

    private static void latestMoveRefused() {
        SunsetDates x = Calendars.small();
        for (int bad : new int[] {-1, 1, MIN, MAX}) {
            check.refused("latestMove(" + bad + ", 0, 1000)", INDEX, x, y -> y.latestMove(bad, 0, 1000));
        }
        for (int bad : new int[] {-1, 2, MIN, MAX}) {
            check.refused("latestMove(0, " + bad + ", -1)", INDEX, x, y -> y.latestMove(0, bad, -1));
        }
        for (int bad : new int[] {-1, 1000, MIN, MAX}) {
            check.refused("latestMove(0, 0, " + bad + ")", ARGUMENT, x, y -> y.latestMove(0, 0, bad));
        }
    }

    private static void bestVersion() {
        SunsetDates x = Calendars.small();
        x.addUser(0, 0);
        check.equal("only one is alive", x.bestVersion(0, 49), 0);
        check.equal("two features are more than one", x.bestVersion(0, 50), 0);
        check.equal("only the other is alive", x.bestVersion(0, 100), 1);
        check.equal("none is alive", x.bestVersion(0, 200), -1);
        check.equal("none is alive, without uses", x.bestVersion(1, 200), -1);
        check.equal("without uses the lowest that is alive", x.bestVersion(1, 100), 1);
        x.addShim(0, 1, 60, 70, 99);
        check.equal("as many by a shim: the lowest one", x.bestVersion(0, 65), 0);
        x.put(0, 0, false);
        check.equal("more by a shim", x.bestVersion(0, 65), 1);
        check.equal("no shim any more", x.bestVersion(0, 71), 0);
        x.pledge(0, 1, 0);
        check.equal("whatever the pledge is", x.bestVersion(0, 71), 0);
        x.put(1, 0, false);
        x.put(1, 1, false);
        check.equal("nothing is served on any", x.bestVersion(0, 80), 0);
        for (int bad : new int[] {-1, 2, MIN, MAX}) {
            check.refused("bestVersion(" + bad + ", 1000)", INDEX, x, y -> y.bestVersion(bad, 1000));
        }
        for (int bad : new int[] {-1, 1000, MIN, MAX}) {
            check.refused("bestVersion(0, " + bad + ")", ARGUMENT, x, y -> y.bestVersion(0, bad));
        }
    }

    private static void cheapest() {
        SunsetDates x = new SunsetDates();
        x.addVersion(0, 500);
        x.addVersion(0, 1000);
        x.addVersion(0, 1000);
        x.addFeature(4);
        x.addUser(0, 1);
        x.addUser(0, 0);
        check.equal("the one that has it", x.cheapest(0, 0, 999), 2);
        x.addShim(0, 0, 0, 999, 1);
        check.equal("costs nothing is less than 1", x.cheapest(0, 0, 0), 2);
        x.put(0, 2, false);
        check.equal("the only one", x.cheapest(0, 0, 499), 0);
        check.equal("ends too early", x.cheapest(0, 0, 500), -1);
        x.addShim(0, 1, 0, 400, 3);
        check.equal("1 is less than 3", x.cheapest(0, 100, 400), 0);
        x.addShim(0, 2, 0, 800, 5);
        check.equal("the first one is stranded from 500", x.cheapest(0, 400, 600), 2);
        x.addShim(0, 1, 300, 999, 9);
        check.equal("3 for 300 days, then 9", x.cheapest(0, 101, 500), 1);
        check.equal("5 is less than 9", x.cheapest(0, 401, 600), 2);
        check.equal("equal costs: the lowest one, 3 + 9 + 9 + 9 against 5 each", x.cheapest(0, 400, 800), 2);
        x.addShim(0, 2, 0, 800, 1);
        x.addShim(0, 0, 0, 10, 1);
        check.equal("the same costs on 0 and 2", x.cheapest(0, 3, 7), 0);
        x.pledge(0, 2, 0);
        check.equal("whatever the pledge is", x.cheapest(0, 3, 7), 0);
        check.equal("none at the end", x.cheapest(0, 800, 801), 1);
        check.equal("without uses", x.cheapest(1, 0, 999), 0);
        cheapestDayByDay();
        for (int bad : new int[] {-1, 2, MIN, MAX}) {
            check.refused("cheapest(" + bad + ", 5, 4)", INDEX, x, y -> y.cheapest(bad, 5, 4));
        }
        for (int bad : new int[] {-1, 1000, MIN, MAX}) {
            check.refused("cheapest(0, " + bad + ", 999)", ARGUMENT, x, y -> y.cheapest(0, bad, 999));
            check.refused("cheapest(0, 0, " + bad + ")", ARGUMENT, x, y -> y.cheapest(0, 0, bad));
        }
        check.refused("cheapest(0, 5, 4)", ARGUMENT, x, y -> y.cheapest(0, 5, 4));
    }

    /** Prices that change from one day to the next: each day of the range counts once, and none beside it. */
    private static void cheapestDayByDay() {
        SunsetDates x = new SunsetDates();
        x.addVersion(0, 1000);
        x.addVersion(0, 1000);
        x.addFeature(0);
        x.addUser(0, 1);
        x.addShim(0, 0, 0, 4, 1);
        x.addShim(0, 0, 5, 5, 3);
        x.addShim(0, 0, 6, 9, 9);
        x.addShim(0, 1, 0, 9, 5);
        check.equal("3 + 9 against 5 + 5", x.cheapest(0, 5, 6), 1);
        check.equal("1 + 3 + 9 against 5 + 5 + 5", x.cheapest(0, 4, 6), 0);
        check.equal("1 + 3 + 9 + 9 against four times 5", x.cheapest(0, 4, 7), 1);
        check.equal("four times 1, 3 and 9 against six times 5", x.cheapest(0, 1, 6), 0);
        check.equal("three times 1, 3 and three times 9 against seven times 5", x.cheapest(0, 2, 8), 0);
        check.equal("beyond the shims of both", x.cheapest(0, 9, 10), -1);
        check.equal("one day", x.cheapest(0, 5, 5), 0);
        check.equal("costs of the first version", x.costs(4, 6), 13);
    }

    private static void shimsNeeded() {
        SunsetDates x = Calendars.small();
        x.addFeature(0);
        x.addUser(1, 7);
        x.addUser(1, 1);
        x.addUser(0, 4);
        check.equal("not released: none is of help", x.shimsNeeded(49), 1);
        check.equal("pairs, each once", x.shimsNeeded(50), 3);
        check.equal("one version has ended", x.shimsNeeded(100), 2);
        check.equal("both have ended", x.shimsNeeded(200), 0);
        x.addShim(0, 1, 60, 60, 1);
        check.equal("with a shim", x.shimsNeeded(60), 2);
        check.equal("the day after it", x.shimsNeeded(61), 3);
        x.pledge(0, 1, 70);
        check.equal("the same pair once more", x.shimsNeeded(70), 3);
        x.pledge(3, 1, 80);
        check.equal("all on one version", x.shimsNeeded(80), 2);
        check.equal("nobody", new SunsetDates().shimsNeeded(0), 0);
        SunsetDates one = Calendars.small();
        one.addFeature(0);
        one.addUser(1, 0);
        check.equal("the only user has all", one.shimsNeeded(60), 0);
        one.put(1, 0, false);
        check.equal("the first user has not all", one.shimsNeeded(60), 1);
        for (int bad : new int[] {-1, 1000, MIN, MAX}) {
            check.refused("shimsNeeded(" + bad + ")", ARGUMENT, x, y -> y.shimsNeeded(bad));
        }
    }

    private static void share() {
        SunsetDates x = Calendars.small();
        check.equal("all", x.share(0), 1.0);
        check.equal("none", x.share(100), 0.0);
        x.addUser(1, 1);
        check.equal("two of three", x.share(50), 2.0 / 3.0);
        x.addShim(0, 1, 120, 120, 1);
        check.equal("one of three, by a shim", x.share(120), 1.0 / 3.0);
        check.equal("none, the day after", x.share(121), 0.0);
        SunsetDates without = new SunsetDates();
        check.equal("no user", without.share(999), 1.0);
        without.addVersion(0, 1);
        without.addUser(0, 0);
        check.equal("a user without uses", without.share(999), 1.0);
        for (int bad : new int[] {-1, 1000, MIN, MAX}) {
            check.refused("share(" + bad + ")", ARGUMENT, x, y -> (long) y.share(bad));
        }
    }
}
