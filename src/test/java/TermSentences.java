import java.util.List;
import java.util.function.Supplier;

/** The section Terms up to the costs, and undo and exceptions, sentence by sentence. */
final class TermSentences {
    static void tell(Sentences s) {
        days(s);
        versions(s);
        features(s);
        users(s);
        shims(s);
        shimNumbers(s);
        serving(s);
        costs(s);
        undo(s);
        fourStates(s);
        savedState(s);
        exceptions(s);
        listedFirst(s);
    }

    private static SunsetDates with(Supplier<SunsetDates> made, Check.Call... calls) {
        return CalendarSentences.with(made, calls);
    }

    private interface OnDay {
        long on(SunsetDates x, int day);
    }

    /** Every call with a day, or with two of them. */
    private static List<OnDay> callsOnDays() {
        return List.of((x, day) -> x.pledge(0, 1, day), (x, day) -> x.addShim(0, 0, day, day, 1),
            (x, day) -> x.versionOn(0, day), (x, day) -> x.served(0, 0, day), (x, day) -> x.missing(0, day),
            (x, day) -> x.stranded(day), (x, day) -> x.costs(day, day), (x, day) -> x.firstStranded(0, day),
            (x, day) -> x.latestMove(0, 1, day), (x, day) -> x.bestVersion(0, day), (x, day) -> x.cheapest(0, day, day),
            (x, day) -> x.shimsNeeded(day), (x, day) -> (long) x.share(day));
    }

    private static void days(Sentences s) {
        s.term("Terms");
        s.says("Days are numbered from 0 to 999");
        List<OnDay> calls = callsOnDays();
        for (int i = 0; i < calls.size(); i++) {
            OnDay call = calls.get(i);
            s.taken("call " + i + " on 0", Calendars::small, y -> call.on(y, 0));
            s.taken("call " + i + " on 999", Calendars::small, y -> call.on(y, 999));
            s.refused(Sentences.ARGUMENT, "call " + i + " on -1", Calendars::small, y -> call.on(y, -1));
            s.refused(Sentences.ARGUMENT, "call " + i + " on 1000", Calendars::small, y -> call.on(y, 1000));
        }
        s.says("The constants: `NONE = -1`");
        s.equal("NONE", SunsetDates.NONE, -1);
    }

    private static void versions(Sentences s) {
        s.term("Versions");
        s.says("There are at most 8, numbered from 0");
        SunsetDates x = new SunsetDates();
        for (int i = 0; i < 8; i++) {
            s.equal("number", x.addVersion(i, i + 1), i);
            s.equal("its release", x.version(i, 0), i);
        }
        s.refused(Sentences.STATE, "a ninth one", Calendars::full, y -> y.addVersion(0, 1));
        s.refused(Sentences.INDEX, "number 8", Calendars::full, y -> y.version(8, 0));
        s.says("alive on the days from its release to its end - 1");
        int[][] spans = {{0, 1}, {0, 1000}, {1, 999}, {10, 20}, {998, 999}, {998, 1000}};
        for (int[] span : spans) {
            alive(s, span[0], span[1]);
        }
        SunsetDates extended = with(() -> Calendars.single(10, 20), y -> y.extend(0, 5));
        s.equal("extended, its last day", extended.served(0, 0, 24), 0);
        s.equal("extended, its end", extended.served(0, 0, 25), 3);
        for (int[] bad : new int[][] {{-1, 1}, {999, 1000}, {0, 0}, {0, 1001}, {998, 998}, {998, 1001}}) {
            s.refused(Sentences.ARGUMENT, bad[0] + ", " + bad[1], SunsetDates::new, y -> y.addVersion(bad[0], bad[1]));
        }
    }

    /** Every answer about a day, on the days next to the release and to the end. */
    private static void alive(Sentences s, int release, int end) {
        for (int day : new int[] {release - 1, release, end - 1, end}) {
            if (day < 0 || day > 999) {
                continue;
            }
            SunsetDates x = Calendars.single(release, end);
            SunsetDates shim = with(() -> Calendars.single(release, end), y -> y.put(0, 0, false),
                y -> y.addShim(0, 0, 0, 999, 7));
            boolean alive = release <= day && day < end;
            String what = release + " to " + end + ", day " + day + ", ";
            int dead = day < release ? 2 : 3;
            s.equal(what + "served", x.served(0, 0, day), alive ? 0 : dead);
            s.equal(what + "served by a shim", shim.served(0, 0, day), alive ? 1 : dead);
            s.equal(what + "missing", x.missing(0, day), alive ? 0 : 1);
            s.equal(what + "missing with a shim", shim.missing(0, day), alive ? 0 : 1);
            s.equal(what + "stranded", x.stranded(day), alive ? 0 : 1);
            s.equal(what + "costs", shim.costs(day, day), alive ? 7 : 0);
            s.equal(what + "bestVersion", x.bestVersion(0, day), alive ? 0 : -1);
            s.equal(what + "cheapest", x.cheapest(0, day, day), alive ? 0 : -1);
            s.equal(what + "share", x.share(day), alive ? 1.0 : 0.0);
            s.equal(what + "firstStranded", x.firstStranded(0, day) == day ? 1 : 0, alive ? 0 : 1);
            shim.dropShim(0);
            s.equal(what + "shimsNeeded", shim.shimsNeeded(day), alive ? 1 : 0);
        }
        s.equal(release + " to " + end + ", days stranded", Calendars.single(release, end).value(7), 1000 - (end - release));
    }

    private static void features(Sentences s) {
        s.term("Features");
        s.says("There are at most 10, numbered from 0");
        SunsetDates x = new SunsetDates();
        for (int i = 0; i < 10; i++) {
            s.equal("number", x.addFeature(0), i);
        }
        s.refused(Sentences.STATE, "an eleventh one", Calendars::full, y -> y.addFeature(0));
        s.refused(Sentences.INDEX, "number 10", Calendars::full, y -> y.put(10, 0, true));
        s.says("A feature has a set of versions that have it, told as a number (bit v for the version v)");
        for (int version = 0; version < 8; version++) {
            SunsetDates one = CalendarSentences.sized(8, 0, 0);
            one.addFeature(1 << version);
            for (int other = 0; other < 8; other++) {
                s.equal("bit " + version + ", version " + other, one.version(other, 2), other == version ? 1 : 0);
            }
            s.equal("bit " + version + " taken out again", one.put(0, version, false), 0);
            s.equal("bit " + version + " put in again", one.put(0, version, true), 1 << version);
        }
    }

    private static void users(Sentences s) {
        s.term("Users");
        s.says("There are at most 10, numbered from 0");
        SunsetDates x = CalendarSentences.sized(1, 0, 0);
        for (int i = 0; i < 10; i++) {
            s.equal("number", x.addUser(0, 0), i);
        }
        s.refused(Sentences.STATE, "an eleventh one", Calendars::full, y -> y.addUser(0, 0));
        s.refused(Sentences.INDEX, "number 10", Calendars::full, y -> y.user(10, 0));
        s.says("A user has a first version and a set of features that the user uses");
        for (int feature = 0; feature < 10; feature++) {
            int set = 1 << feature;
            SunsetDates one = with(() -> CalendarSentences.sized(8, 10, 0), y -> y.addUser(7, set));
            s.equal("first version", one.user(0, 0), 7);
            s.equal("no pledge", one.user(0, 2), SunsetDates.NONE);
            s.equal("bit", one.missing(0, 500), set);
            for (int other = 0; other < 10; other++) {
                s.equal("bit " + feature + ", feature " + other, one.served(0, other, 500), other == feature ? 4 : 5);
            }
            one.pledge(0, 6, 0);
            s.equal("a pledge", one.user(0, 2), 6);
            s.equal("the first version stays", one.user(0, 0), 7);
        }
        s.says("On a day the user is on the version of the pledge if there is one and its day is not later");
        for (int day : new int[] {0, 1, 500, 998, 999}) {
            SunsetDates moves = with(Calendars::small, y -> y.pledge(0, 1, day));
            for (int on : new int[] {0, 1, 499, 500, 501, 997, 998, 999}) {
                s.equal("pledge on " + day + ", day " + on, moves.versionOn(0, on), on >= day ? 1 : 0);
            }
            moves.takeBack(0);
            s.equal("without a pledge", moves.versionOn(0, 999), 0);
        }
    }

    private static void shims(Sentences s) {
        s.term("Shims");
        s.says("A shim has a feature, a version, a first and a last day, and a price, 1 to 99");
        SunsetDates x = with(() -> CalendarSentences.sized(8, 10, 0), y -> y.addShim(9, 7, 0, 999, 1),
            y -> y.addShim(0, 0, 999, 999, 99));
        CalendarSentences.shim(s, "first", x, 0, 9, 7, 0, 999, 1);
        CalendarSentences.shim(s, "second", x, 1, 0, 0, 999, 999, 99);
        s.refused(Sentences.ARGUMENT, "price 0", Calendars::small, y -> y.addShim(0, 0, 0, 0, 0));
        s.refused(Sentences.ARGUMENT, "price 100", Calendars::small, y -> y.addShim(0, 0, 0, 0, 100));
        s.says("It is active on the days from the first to the last one");
        int[][] spans = {{0, 0}, {0, 999}, {1, 998}, {10, 10}, {10, 11}, {999, 999}};
        for (int[] span : spans) {
            SunsetDates one = with(Calendars::bare, y -> y.addShim(0, 0, span[0], span[1], 7));
            for (int day : new int[] {span[0] - 1, span[0], span[1], span[1] + 1}) {
                if (day >= 0 && day <= 999) {
                    boolean active = span[0] <= day && day <= span[1];
                    String what = span[0] + " to " + span[1] + ", day " + day + ", ";
                    s.equal(what + "served", one.served(0, 0, day), active ? 1 : 4);
                    s.equal(what + "missing", one.missing(0, day), active ? 0 : 1);
                    s.equal(what + "costs", one.costs(day, day), active ? 7 : 0);
                    s.equal(what + "cheapest", one.cheapest(0, day, day), active ? 0 : -1);
                    s.equal(what + "shimsNeeded", one.shimsNeeded(day), active ? 0 : 1);
                    s.equal(what + "firstStranded", one.firstStranded(0, day) == day ? 1 : 0, active ? 0 : 1);
                }
            }
            s.equal("days stranded", one.value(7), 999 - (span[1] - span[0]));
            s.equal("costs of all days", one.costs(0, 999), 7 * (span[1] - span[0] + 1));
        }
    }

    private static void shimNumbers(Sentences s) {
        s.says("There are at most 12, numbered from 0 in the order in which they were added");
        SunsetDates x = Calendars.small();
        for (int i = 0; i < 12; i++) {
            s.equal("number", x.addShim(0, 0, 0, 0, 50 - i), i);
        }
        s.refused(Sentences.STATE, "a thirteenth one", Calendars::full, y -> y.addShim(0, 0, 0, 0, 1));
        s.refused(Sentences.INDEX, "number 12", Calendars::full, y -> y.shim(12, 0));
        for (int dropped = 0; dropped < 12; dropped++) {
            int it = dropped;
            SunsetDates left = with(Calendars::full, y -> y.dropShim(it));
            for (int i = 0; i < 11; i++) {
                s.equal("price of " + i + " without " + it, left.shim(i, 4), i < it ? 1 + i : 2 + i);
            }
            s.refused(Sentences.INDEX, "the number that is free, without " + it, () -> with(Calendars::full,
                y -> y.dropShim(it)), y -> y.shim(11, 0));
            s.equal("the next one's number", left.addShim(0, 0, 0, 0, 99), 11);
        }
    }

    private static void serving(Sentences s) {
        s.term("Serving");
        s.says("A use is a feature that a user uses");
        SunsetDates x = with(Calendars::small, y -> y.addUser(0, 2), y -> y.addUser(1, 2), y -> y.addUser(1, 0));
        s.equal("uses", x.value(5), 4);
        s.equal("share of them", x.share(50), 1.0);
        s.equal("share of them, one not released", x.share(0), 0.75);
        s.says("On a day it is served by the version if the version on which the user is is alive and has the feature");
        int[][] due = {
            // alive, has it, shim, answer
            {0, 0, 0, 2}, {0, 0, 1, 2}, {0, 1, 0, 2}, {0, 1, 1, 2},
            {1, 0, 0, 4}, {1, 0, 1, 1}, {1, 1, 0, 0}, {1, 1, 1, 0}};
        for (int[] it : due) {
            SunsetDates one = Calendars.single(10, 20);
            if (it[1] == 0) {
                one.put(0, 0, false);
            }
            if (it[2] == 1) {
                one.addShim(0, 0, 0, 999, 1);
            }
            s.equal("alive " + it[0] + ", has " + it[1] + ", shim " + it[2], one.served(0, 0, 9 + it[0]), it[3]);
        }
        s.equal("a shim for another feature", with(Calendars::bare, y -> y.addFeature(0),
            y -> y.addShim(1, 0, 0, 999, 1)).served(0, 0, 0), 4);
        s.equal("a shim for another version", with(Calendars::bare, y -> y.addShim(0, 1, 0, 999, 1)).served(0, 0, 0), 4);
        s.equal("another version has it", with(Calendars::bare, y -> y.put(0, 1, true)).served(0, 0, 0), 4);
        s.equal("the version has another feature", with(Calendars::bare, y -> y.addFeature(1)).served(0, 0, 0), 4);
        s.says("A user is stranded on a day if some use of the user is not served");
        SunsetDates some = with(Calendars::bare, y -> y.addFeature(1), y -> y.addUser(0, 3), y -> y.addUser(0, 2),
            y -> y.addUser(0, 0));
        s.equal("all, some, none, no uses", some.stranded(5), 3);
        some.put(0, 0, true);
        s.equal("all are served", some.stranded(5), 0);
    }

    private static void costs(Sentences s) {
        s.term("Costs");
        s.says("a use that is served by a shim costs the price of the cheapest active shim");
        SunsetDates x = with(Calendars::bare, y -> y.addShim(0, 0, 0, 999, 50), y -> y.addShim(0, 0, 10, 19, 40),
            y -> y.addShim(0, 0, 15, 15, 60), y -> y.addShim(0, 0, 19, 30, 1), y -> y.addShim(0, 0, 20, 20, 1));
        int[][] due = {{9, 50}, {10, 40}, {15, 40}, {18, 40}, {19, 1}, {20, 1}, {30, 1}, {31, 50}};
        for (int[] it : due) {
            s.equal("day " + it[0], x.costs(it[0], it[0]), it[1]);
        }
        SunsetDates others = with(Calendars::bare, y -> y.addFeature(0), y -> y.addShim(0, 0, 0, 999, 50),
            y -> y.addShim(1, 0, 0, 999, 2), y -> y.addShim(0, 1, 0, 999, 3));
        s.equal("a cheaper one for another feature or another version", others.costs(5, 5), 50);
        others.put(0, 0, true);
        s.equal("served by the version, though there is a shim", others.costs(0, 999), 0);
        SunsetDates dead = with(() -> Calendars.single(10, 20), y -> y.put(0, 0, false), y -> y.addShim(0, 0, 0, 999, 5));
        s.equal("not released", dead.costs(0, 9), 0);
        s.equal("ended", dead.costs(20, 999), 0);
        s.equal("not used", with(Calendars::bare, y -> y.addFeature(0), y -> y.addShim(1, 0, 0, 999, 5)).costs(0, 999), 0);
        s.equal("not served", Calendars.bare().costs(0, 999), 0);
    }

    /** Every undoable call, on ready(). */
    private static List<Check.Call> undoableCalls() {
        return List.of(y -> y.addVersion(0, 1), y -> y.addFeature(1), y -> y.put(0, 0, false), y -> y.addUser(0, 0),
            y -> y.pledge(0, 0, 0), y -> y.takeBack(0), y -> y.slip(0, 1), y -> y.extend(0, 1),
            y -> y.addShim(0, 0, 0, 0, 1), y -> y.dropShim(0), y -> y.carryOut());
    }

    /** Every other call, on ready(). */
    private static List<Check.Call> otherCalls() {
        return List.of(y -> y.version(0, 0), y -> y.user(0, 0), y -> y.shim(0, 0), y -> y.versionOn(0, 0),
            y -> y.served(0, 0, 0), y -> y.missing(0, 0), y -> y.stranded(0), y -> y.costs(0, 999), y -> y.value(7),
            y -> y.firstStranded(0, 0), y -> y.latestMove(0, 1, 0), y -> y.bestVersion(0, 0), y -> y.cheapest(0, 0, 9),
            y -> y.shimsNeeded(0), y -> (long) y.share(0), y -> y.append('x'), y -> y.clearText(), y -> y.digest());
    }

    private static SunsetDates ready() {
        return with(Calendars::small, y -> y.pledge(0, 1, 70), y -> y.addShim(0, 1, 50, 99, 3));
    }

    private static void undo(Sentences s) {
        s.term("Undo");
        s.says("Each successful call of a method whose description says \"undoable\" saves the state");
        List<Check.Call> calls = undoableCalls();
        for (int i = 0; i < calls.size(); i++) {
            s.undoable("call " + i, TermSentences::ready, calls.get(i));
        }
        List<Check.Call> others = otherCalls();
        for (int i = 0; i < others.size(); i++) {
            String before = Portrait.states(ready()).toString();
            s.equal("no state is saved by call " + i, Portrait.states(with(TermSentences::ready, others.get(i))).toString(),
                before);
        }
        List<String> same = Portrait.states(with(TermSentences::ready, y -> y.pledge(0, 1, 70)));
        s.equal("a pledge that changes nothing", same.get(0), same.get(1));
        s.equal("it saves a state all the same", same.get(1) + same.get(2),
            Portrait.states(ready()).get(0) + Portrait.states(ready()).get(1));
        s.equal("orders that change nothing", with(() -> TextSentences.texted(SunsetDates::new, "d0;"), y -> y.carryOut(),
            y -> y.carryOut()).undo(), 1);
    }

    private static void fourStates(Sentences s) {
        for (int calls = 1; calls <= 8; calls++) {
            SunsetDates x = new SunsetDates();
            for (int i = 0; i < calls; i++) {
                x.addVersion(i, 999);
            }
            int saved = Math.min(4, calls);
            for (int undone = 1; undone <= saved; undone++) {
                s.equal("at most 4 of " + calls, x.undo(), saved - undone);
                s.equal("the oldest is dropped first", x.value(0), calls - undone);
            }
            s.equal("no more than 4 of " + calls, thrown(x, y -> y.undo()), "java.lang.IllegalStateException");
            s.equal("what stands then", x.value(0), calls - saved);
        }
        SunsetDates many = Calendars.early();
        for (int day = 0; day < 300; day++) {
            many.pledge(0, 0, day);
        }
        for (int left = 3; left >= 0; left--) {
            s.equal("the last of many", many.undo(), left);
            s.equal("its day", many.user(0, 3), 295 + left);
        }
    }

    private static void savedState(Sentences s) {
        s.says("The saved state contains everything except the text");
        List<Check.Call> calls = undoableCalls();
        for (int i = 0; i < calls.size(); i++) {
            SunsetDates x = with(TermSentences::ready, y -> Check.write(y, "e0+1;"), calls.get(i), y -> y.append('d'));
            String before = Check.state(ready());
            x.undo();
            s.equal("all else after call " + i, Check.state(x), before);
            s.equal("the text after call " + i, x.carryOut(), -16);
            s.equal("its length after call " + i, x.clearText(), 6);
        }
        SunsetDates cleared = with(() -> TextSentences.texted(SunsetDates::new, "e0+1;"), y -> y.carryOut(),
            y -> y.clearText(), y -> y.undo());
        s.equal("a text that was emptied stays empty", cleared.clearText(), 0);
        SunsetDates slips = with(TermSentences::ready, y -> y.slip(0, 9), y -> y.undo());
        s.equal("the slips, too", slips.value(6), 0);
        SunsetDates four = with(TermSentences::ready, y -> y.extend(0, 9), y -> y.put(0, 1, true), y -> y.slip(0, 9),
            y -> y.dropShim(0), y -> y.undo(), y -> y.undo(), y -> y.undo(), y -> y.undo());
        s.equal("all after four calls", Check.state(four), Check.state(ready()));
    }

    private static void exceptions(Sentences s) {
        s.term("Exceptions");
        s.says("A call that throws an exception changes nothing");
        List<Check.Call> bad = List.of(y -> y.addVersion(5, 5), y -> y.addFeature(-1), y -> y.put(0, 0, true),
            y -> y.addUser(2, 0), y -> y.addUser(0, 4), y -> y.pledge(0, 1, 1000), y -> y.pledge(0, 2, 0),
            y -> y.takeBack(1), y -> y.slip(0, 100), y -> y.slip(1, 1), y -> y.extend(0, 0), y -> y.extend(2, 1),
            y -> y.addShim(0, 0, 5, 4, 1), y -> y.addShim(0, 0, 0, 9, 100), y -> y.dropShim(1), y -> y.version(0, 5),
            y -> y.user(0, 6), y -> y.shim(0, 5), y -> y.versionOn(0, 1000), y -> y.served(0, 0, 1000),
            y -> y.missing(0, 1000), y -> y.stranded(1000), y -> y.costs(5, 4), y -> y.value(8),
            y -> y.firstStranded(0, 1000), y -> y.latestMove(0, 1, 1000), y -> y.bestVersion(0, 1000),
            y -> y.cheapest(0, 5, 4), y -> y.shimsNeeded(1000), y -> (long) y.share(1000), y -> y.append(128));
        for (int i = 0; i < bad.size(); i++) {
            for (int undone = 0; undone <= 2; undone++) {
                int undos = undone;
                Supplier<SunsetDates> made = () -> saved(undos);
                s.untouched("call " + i + ", " + undone + " undone", made, bad.get(i));
            }
        }
        s.untouched("undo of nothing", () -> CalendarSentences.with(() -> saved(2), y -> y.undo(), y -> y.undo()),
            y -> y.undo());
        s.untouched("append to a full text", () -> TextSentences.texted(TermSentences::ready, "e0+1;".repeat(20)),
            y -> y.append(';'));
    }

    /** As ready(), with a text, with four saved states less those that are undone and have changed nothing. */
    private static SunsetDates saved(int undos) {
        SunsetDates x = ready();
        for (int i = 0; i < 4; i++) {
            x.carryOut();
        }
        for (int i = 0; i < undos; i++) {
            x.undo();
        }
        Check.write(x, "e0+1;");
        return x;
    }

    private static void listedFirst(Sentences s) {
        s.says("If several exceptions apply, the one that is listed first is thrown");
        s.refused(Sentences.ARGUMENT, "addVersion", Calendars::full, y -> y.addVersion(-1, 5));
        s.refused(Sentences.ARGUMENT, "addFeature", Calendars::full, y -> y.addFeature(256));
        s.refused(Sentences.INDEX, "addUser, all three", Calendars::full, y -> y.addUser(8, 1024));
        s.refused(Sentences.INDEX, "addUser, first and third", Calendars::full, y -> y.addUser(8, 0));
        s.refused(Sentences.ARGUMENT, "addUser, second and third", Calendars::full, y -> y.addUser(0, 1024));
        s.refused(Sentences.INDEX, "pledge", Calendars::full, y -> y.pledge(0, 8, 1000));
        s.refused(Sentences.INDEX, "slip, first and second", Calendars::full, y -> y.slip(10, 0));
        s.refused(Sentences.ARGUMENT, "slip, second and third", Calendars::full, y -> y.slip(0, 0));
        s.refused(Sentences.INDEX, "extend, first and second", Calendars::full, y -> y.extend(8, 0));
        s.refused(Sentences.ARGUMENT, "extend, second and third", Calendars::dearest, y -> y.extend(0, 100));
        s.refused(Sentences.INDEX, "addShim, all three", Calendars::full, y -> y.addShim(10, 0, 5, 4, 0));
        s.refused(Sentences.INDEX, "addShim, first and second", Calendars::small, y -> y.addShim(0, 2, 5, 4, 0));
        s.refused(Sentences.INDEX, "addShim, first and third", Calendars::full, y -> y.addShim(0, 8, 0, 0, 1));
        s.refused(Sentences.ARGUMENT, "addShim, second and third", Calendars::full, y -> y.addShim(0, 0, 0, 0, 0));
        s.refused(Sentences.INDEX, "version", Calendars::full, y -> y.version(8, 5));
        s.refused(Sentences.INDEX, "user", Calendars::full, y -> y.user(10, 6));
        s.refused(Sentences.INDEX, "shim", Calendars::full, y -> y.shim(12, 5));
        s.refused(Sentences.INDEX, "versionOn", Calendars::full, y -> y.versionOn(10, 1000));
        s.refused(Sentences.INDEX, "served", Calendars::full, y -> y.served(0, 10, 1000));
        s.refused(Sentences.INDEX, "missing", Calendars::full, y -> y.missing(10, 1000));
        s.refused(Sentences.INDEX, "firstStranded", Calendars::full, y -> y.firstStranded(10, 1000));
        s.refused(Sentences.INDEX, "latestMove", Calendars::full, y -> y.latestMove(0, 8, 1000));
        s.refused(Sentences.INDEX, "bestVersion", Calendars::full, y -> y.bestVersion(10, 1000));
        s.refused(Sentences.INDEX, "cheapest", Calendars::full, y -> y.cheapest(10, 5, 4));
        s.equal("append", Portrait.of(() -> Sentences.after(TermSentences::fullText, y -> y.append(128))),
            Portrait.of(TermSentences::fullText));
        s.equal("append throws", thrown(fullText(), y -> y.append(128)), "java.lang.IllegalArgumentException");
    }

    private static SunsetDates fullText() {
        return TextSentences.texted(TermSentences::ready, "e0+1;".repeat(20));
    }

    private static String thrown(SunsetDates x, Check.Call call) {
        try {
            call.on(x);
        } catch (RuntimeException e) {
            return e.getClass().getName();
        }
        return "nothing";
    }

    private TermSentences() { }
}
