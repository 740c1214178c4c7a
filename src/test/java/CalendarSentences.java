import java.util.function.Supplier;

/** Promises 1 to 11, sentence by sentence. */
final class CalendarSentences {
    static void tell(Sentences s) {
        newObject(s);
        addVersion(s);
        addVersionRefused(s);
        addFeature(s);
        put(s);
        addUser(s);
        pledge(s);
        takeBack(s);
        slip(s);
        slipRefused(s);
        extend(s);
        addShim(s);
        addShimRefused(s);
        dropShim(s);
    }

    static void version(Sentences s, String what, SunsetDates x, int version, int... due) {
        for (int i = 0; i <= 4; i++) {
            s.equal(what + ", version(" + version + ", " + i + ")", x.version(version, i), due[i]);
        }
    }

    static void user(Sentences s, String what, SunsetDates x, int user, int... due) {
        for (int i = 0; i <= 5; i++) {
            s.equal(what + ", user(" + user + ", " + i + ")", x.user(user, i), due[i]);
        }
    }

    static void shim(Sentences s, String what, SunsetDates x, int shim, int... due) {
        for (int i = 0; i <= 4; i++) {
            s.equal(what + ", shim(" + shim + ", " + i + ")", x.shim(shim, i), due[i]);
        }
    }

    static SunsetDates with(Supplier<SunsetDates> made, Check.Call... calls) {
        SunsetDates x = made.get();
        for (Check.Call call : calls) {
            call.on(x);
        }
        return x;
    }

    private static void newObject(Sentences s) {
        s.promise(1);
        s.says("Creates an empty calendar");
        SunsetDates x = new SunsetDates();
        for (int what = 0; what <= 7; what++) {
            s.equal("value(" + what + ")", x.value(what), 0);
        }
        for (int day = 0; day <= 999; day += 999) {
            s.equal("stranded", x.stranded(day), 0);
            s.equal("shimsNeeded", x.shimsNeeded(day), 0);
            s.equal("share", x.share(day), 1.0);
        }
        s.equal("costs", x.costs(0, 999), 0);
        s.equal("text", x.clearText(), 0);
        s.refused(Sentences.INDEX, "version(0, 0)", SunsetDates::new, y -> y.version(0, 0));
        s.refused(Sentences.INDEX, "user(0, 0)", SunsetDates::new, y -> y.user(0, 0));
        s.refused(Sentences.INDEX, "shim(0, 0)", SunsetDates::new, y -> y.shim(0, 0));
        s.refused(Sentences.STATE, "undo", SunsetDates::new, y -> y.undo());
        SunsetDates other = Calendars.full();
        s.equal("another object has nothing to do with it", x.value(0) + other.value(0), 8);
    }

    private static void addVersion(Sentences s) {
        s.promise(2);
        s.says("Adds a version.");
        SunsetDates x = with(Calendars::small, y -> y.addVersion(300, 400));
        s.equal("versions", x.value(0), 3);
        version(s, "the new one", x, 2, 300, 400, 0, 0, 0);
        version(s, "those before", x, 0, 0, 100, 3, 0, 0);
        version(s, "those before", x, 1, 50, 200, 2, 0, 0);
        SunsetDates again = with(Calendars::small, y -> y.addVersion(1, 2), y -> y.put(0, 2, true), y -> y.extend(2, 9),
            y -> y.undo(), y -> y.undo(), y -> y.undo(), y -> y.addVersion(3, 4));
        version(s, "in place of one that was undone", again, 2, 3, 4, 0, 0, 0);
        s.says("Undoable");
        s.undoable("addVersion", Calendars::small, y -> y.addVersion(3, 4));
        s.undoable("addVersion of a first one", SunsetDates::new, y -> y.addVersion(3, 4));
        s.says("`release`: 0 to 998");
        s.equal("0", with(SunsetDates::new, y -> y.addVersion(0, 1000)).version(0, 0), 0);
        s.equal("998", with(SunsetDates::new, y -> y.addVersion(998, 1000)).version(0, 0), 998);
        s.refused(Sentences.ARGUMENT, "-1", Calendars::small, y -> y.addVersion(-1, 1000));
        s.refused(Sentences.ARGUMENT, "999", Calendars::small, y -> y.addVersion(999, 1000));
        s.says("`end`: release + 1 to 1000");
        int[][] ends = {{0, 1}, {0, 1000}, {500, 501}, {500, 1000}, {998, 999}, {998, 1000}};
        for (int[] it : ends) {
            s.equal("of " + it[0], with(SunsetDates::new, y -> y.addVersion(it[0], it[1])).version(0, 1), it[1]);
        }
        int[][] bad = {{0, 0}, {0, 1001}, {500, 500}, {500, 499}, {500, 1001}, {998, 998}, {998, 1001}, {0, -1}};
        for (int[] it : bad) {
            s.refused(Sentences.ARGUMENT, it[0] + ", " + it[1], Calendars::small, y -> y.addVersion(it[0], it[1]));
        }
        s.says("Returns its number");
        SunsetDates many = new SunsetDates();
        for (int i = 0; i < 8; i++) {
            s.equal("number", many.addVersion(0, 1), i);
        }
    }

    private static void addVersionRefused(Sentences s) {
        s.says("`IllegalArgumentException`");
        for (Supplier<SunsetDates> made : Sentences.of(SunsetDates::new, Calendars::small, Calendars::full)) {
            for (int bad : Sentences.beyond(0, 998)) {
                s.refused(Sentences.ARGUMENT, "release " + bad, made, y -> y.addVersion(bad, 1000));
                s.refused(Sentences.ARGUMENT, "release and end " + bad, made, y -> y.addVersion(bad, bad));
                s.refused(Sentences.ARGUMENT, "release + 1 to " + bad, made, y -> y.addVersion(bad, bad + 1));
            }
            for (int bad : Sentences.beyond(8, 1000)) {
                s.refused(Sentences.ARGUMENT, "end " + bad, made, y -> y.addVersion(7, bad));
            }
        }
        s.says("`IllegalStateException`");
        s.refused(Sentences.STATE, "a ninth one", Calendars::full, y -> y.addVersion(0, 1));
        s.refused(Sentences.STATE, "a ninth one", Calendars::dearest, y -> y.addVersion(998, 1000));
        Supplier<SunsetDates> seven = () -> sized(7, 0, 0);
        s.taken("an eighth one", seven, y -> y.addVersion(998, 1000));
        s.refused(Sentences.STATE, "a ninth one then", () -> with(seven, y -> y.addVersion(0, 1)),
            y -> y.addVersion(0, 1));
        s.taken("an eighth one after undo", () -> with(seven, y -> y.addVersion(0, 1), y -> y.undo()),
            y -> y.addVersion(0, 1));
    }

    /** So many versions, features in none of them, and users without uses on the version 0. */
    static SunsetDates sized(int versions, int features, int users) {
        SunsetDates x = new SunsetDates();
        for (int i = 0; i < versions; i++) {
            x.addVersion(i, 1000 - i);
        }
        for (int i = 0; i < features; i++) {
            x.addFeature(0);
        }
        for (int i = 0; i < users; i++) {
            x.addUser(0, 0);
        }
        return x;
    }

    private static void addFeature(Sentences s) {
        s.promise(3);
        s.says("Adds a feature");
        SunsetDates x = with(Calendars::small, y -> y.addFeature(2));
        s.equal("features", x.value(1), 3);
        s.equal("features of 0", x.version(0, 2), 3);
        s.equal("features of 1", x.version(1, 2), 6);
        s.equal("nobody uses it", x.served(0, 2, 0), 5);
        SunsetDates again = with(Calendars::small, y -> y.addFeature(3), y -> y.undo(), y -> y.addFeature(0));
        s.equal("in place of one that was undone, 0", again.version(0, 2), 3);
        s.equal("in place of one that was undone, 1", again.version(1, 2), 2);
        s.says("Undoable");
        s.undoable("addFeature", Calendars::small, y -> y.addFeature(2));
        s.undoable("addFeature without versions", SunsetDates::new, y -> y.addFeature(0));
        s.says("`versions`: a set of versions");
        for (int set : new int[] {0, 1, 128, 255, 170}) {
            SunsetDates all = with(() -> sized(8, 9, 0), y -> y.addFeature(set));
            for (int version = 0; version < 8; version++) {
                s.equal("set " + set + ", version " + version, all.version(version, 2), 512 * (set >> version & 1));
            }
        }
        s.says("Returns its number");
        SunsetDates many = sized(1, 0, 0);
        for (int i = 0; i < 10; i++) {
            s.equal("number", many.addFeature(i % 2), i);
        }
        s.says("`IllegalArgumentException`");
        for (int versions = 0; versions <= 8; versions++) {
            int count = versions;
            Supplier<SunsetDates> made = () -> sized(count, 0, 0);
            s.taken("all of " + count, made, y -> y.addFeature((1 << count) - 1));
            for (int bad : new int[] {-1, Sentences.MIN, Sentences.MAX, 1 << count, (1 << count) + 1, 1 << 30, -(1 << count)}) {
                s.refused(Sentences.ARGUMENT, bad + " of " + count, made, y -> y.addFeature(bad));
                s.refused(Sentences.ARGUMENT, bad + " of " + count + ", an eleventh one", () -> sized(count, 10, 0),
                    y -> y.addFeature(bad));
            }
        }
        s.says("`IllegalStateException`");
        s.refused(Sentences.STATE, "an eleventh one", Calendars::full, y -> y.addFeature(255));
        s.refused(Sentences.STATE, "an eleventh one without versions", () -> sized(0, 10, 0), y -> y.addFeature(0));
        s.taken("a tenth one", () -> sized(0, 9, 0), y -> y.addFeature(0));
        s.taken("a tenth one after undo", () -> with(() -> sized(8, 10, 0), y -> y.undo()), y -> y.addFeature(255));
    }

    private static void put(Sentences s) {
        s.promise(4);
        s.says("Puts a feature into a version, or takes it out");
        SunsetDates x = with(Calendars::small, y -> y.put(0, 1, true));
        s.equal("put in", x.version(1, 2), 3);
        s.equal("the other version has what it had", x.version(0, 2), 3);
        x.put(1, 0, false);
        s.equal("taken out", x.version(0, 2), 1);
        s.equal("the other version has it still", x.version(1, 2), 3);
        s.says("Undoable");
        s.undoable("put in", Calendars::small, y -> y.put(0, 1, true));
        s.undoable("put out", Calendars::small, y -> y.put(1, 1, false));
        s.says("`feature`: number of a feature");
        s.equal("0", with(() -> sized(8, 10, 0), y -> y.put(0, 3, true)).version(3, 2), 1);
        s.equal("9", with(() -> sized(8, 10, 0), y -> y.put(9, 3, true)).version(3, 2), 512);
        s.says("`version`: number of a version");
        s.equal("0", with(() -> sized(8, 10, 0), y -> y.put(4, 0, true)).version(0, 2), 16);
        s.equal("7", with(() -> sized(8, 10, 0), y -> y.put(4, 7, true)).version(7, 2), 16);
        s.says("`has`: whether the version has it then");
        SunsetDates both = Calendars.small();
        s.equal("had it", both.served(0, 0, 0), 0);
        both.put(0, 0, false);
        s.equal("false", both.served(0, 0, 0), 4);
        both.put(0, 0, true);
        s.equal("true", both.served(0, 0, 0), 0);
        s.says("Returns the set of versions that have it then");
        SunsetDates many = sized(8, 10, 0);
        for (int version = 7; version >= 0; version--) {
            s.equal("put into " + version, many.put(9, version, true), 255 & -1 << version);
        }
        for (int version = 7; version >= 0; version--) {
            s.equal("put out of " + version, many.put(9, version, false), (1 << version) - 1);
        }
        s.says("`IndexOutOfBoundsException`");
        for (int bad : Sentences.noIndex(2)) {
            for (boolean has : new boolean[] {false, true}) {
                s.refused(Sentences.INDEX, "feature " + bad, Calendars::small, y -> y.put(bad, 0, has));
                s.refused(Sentences.INDEX, "version " + bad, Calendars::small, y -> y.put(0, bad, has));
                s.refused(Sentences.INDEX, "both " + bad, Calendars::small, y -> y.put(bad, bad, has));
            }
        }
        s.refused(Sentences.INDEX, "feature 10", Calendars::full, y -> y.put(10, 7, true));
        s.refused(Sentences.INDEX, "version 8", Calendars::full, y -> y.put(9, 8, true));
        s.refused(Sentences.INDEX, "feature 0 of none", () -> sized(1, 0, 0), y -> y.put(0, 0, true));
        s.refused(Sentences.INDEX, "version 0 of none", () -> sized(0, 1, 0), y -> y.put(0, 0, true));
        s.says("`IllegalStateException` if it is so already");
        s.refused(Sentences.STATE, "had it", Calendars::small, y -> y.put(1, 1, true));
        s.refused(Sentences.STATE, "had it not", Calendars::small, y -> y.put(0, 1, false));
        s.refused(Sentences.STATE, "put in", () -> with(Calendars::small, y -> y.put(0, 1, true)), y -> y.put(0, 1, true));
        s.refused(Sentences.STATE, "put out", () -> with(Calendars::small, y -> y.put(0, 0, false)),
            y -> y.put(0, 0, false));
    }

    private static void addUser(Sentences s) {
        s.promise(5);
        s.says("Adds a user without a pledge");
        SunsetDates x = with(Calendars::small, y -> y.pledge(0, 1, 0), y -> y.slip(0, 3), y -> y.addUser(1, 2));
        s.equal("users", x.value(2), 2);
        user(s, "the new one", x, 1, 1, 2, -1, -1, 0, 0);
        user(s, "the one before", x, 0, 0, 3, 1, 3, 1, 3);
        SunsetDates again = with(Calendars::small, y -> y.addUser(1, 3), y -> y.pledge(1, 1, 5), y -> y.slip(1, 6),
            y -> y.undo(), y -> y.undo(), y -> y.undo(), y -> y.addUser(0, 0));
        user(s, "in place of one that was undone", again, 1, 0, 0, -1, -1, 0, 0);
        s.says("Undoable");
        s.undoable("addUser", Calendars::small, y -> y.addUser(1, 3));
        s.says("`version`: number of a version");
        s.equal("0", with(() -> sized(8, 10, 0), y -> y.addUser(0, 0)).user(0, 0), 0);
        s.equal("7", with(() -> sized(8, 10, 0), y -> y.addUser(7, 0)).user(0, 0), 7);
        s.says("`features`: a set of features");
        for (int set : new int[] {0, 1, 512, 1023, 682}) {
            s.equal("set " + set, with(() -> sized(8, 10, 0), y -> y.addUser(7, set)).user(0, 1), set);
        }
        s.says("Returns the number of the user");
        SunsetDates many = sized(8, 10, 0);
        for (int i = 0; i < 10; i++) {
            s.equal("number", many.addUser(7 - i % 8, i), i);
        }
        s.says("`IndexOutOfBoundsException`");
        for (int bad : Sentences.noIndex(8)) {
            s.refused(Sentences.INDEX, "version " + bad, () -> sized(8, 10, 0), y -> y.addUser(bad, 0));
            s.refused(Sentences.INDEX, "version " + bad + ", features 1024, an eleventh user", Calendars::full,
                y -> y.addUser(bad, 1024));
        }
        s.refused(Sentences.INDEX, "version 0 of none", SunsetDates::new, y -> y.addUser(0, -1));
        s.refused(Sentences.INDEX, "version 7 of seven", () -> sized(7, 0, 0), y -> y.addUser(7, 0));
        s.says("`IllegalArgumentException`");
        for (int features = 0; features <= 10; features++) {
            int count = features;
            Supplier<SunsetDates> made = () -> sized(1, count, 0);
            s.taken("all of " + count, made, y -> y.addUser(0, (1 << count) - 1));
            for (int bad : new int[] {-1, Sentences.MIN, Sentences.MAX, 1 << count, (1 << count) + 1, 1 << 30, -(1 << count)}) {
                s.refused(Sentences.ARGUMENT, bad + " of " + count, made, y -> y.addUser(0, bad));
                s.refused(Sentences.ARGUMENT, bad + " of " + count + ", an eleventh user", () -> sized(1, count, 10),
                    y -> y.addUser(0, bad));
            }
        }
        s.says("`IllegalStateException`");
        s.refused(Sentences.STATE, "an eleventh one", Calendars::full, y -> y.addUser(7, 1023));
        s.refused(Sentences.STATE, "an eleventh one without uses", () -> sized(1, 0, 10), y -> y.addUser(0, 0));
        s.taken("a tenth one", () -> sized(8, 10, 9), y -> y.addUser(7, 1023));
        s.taken("a tenth one after undo", () -> with(() -> sized(8, 10, 10), y -> y.undo()), y -> y.addUser(7, 1023));
    }

    private static void pledge(Sentences s) {
        s.promise(6);
        s.says("Makes a pledge; it takes the place of the one before");
        SunsetDates x = with(Calendars::small, y -> y.addUser(1, 1), y -> y.pledge(0, 1, 30));
        user(s, "made", x, 0, 0, 3, 1, 30, 0, 0);
        user(s, "the other user", x, 1, 1, 1, -1, -1, 0, 0);
        s.equal("on its day", x.versionOn(0, 30), 1);
        x.pledge(0, 0, 60);
        user(s, "in its place", x, 0, 0, 3, 0, 60, 0, 0);
        s.equal("on the day of the one before", x.versionOn(0, 30), 0);
        s.equal("users with a pledge", x.value(4), 1);
        s.says("Undoable");
        s.undoable("a first pledge", Calendars::small, y -> y.pledge(0, 1, 70));
        s.undoable("a second pledge", () -> with(Calendars::small, y -> y.pledge(0, 1, 70)), y -> y.pledge(0, 0, 7));
        s.undoable("the same pledge", () -> with(Calendars::small, y -> y.pledge(0, 1, 70)), y -> y.pledge(0, 1, 70));
        s.says("`user`: number of a user");
        for (int user : new int[] {0, 9}) {
            s.equal("user " + user, with(() -> sized(8, 0, 10), y -> y.pledge(user, 3, 4)).user(user, 2), 3);
        }
        s.says("`version`: number of a version");
        for (int version : new int[] {0, 7}) {
            s.equal("version", with(() -> sized(8, 0, 10), y -> y.pledge(5, version, 4)).user(5, 2), version);
        }
        s.says("`day`: 0 to 999");
        for (int day : new int[] {0, 999}) {
            s.equal("day", with(Calendars::small, y -> y.pledge(0, 1, day)).user(0, 3), day);
        }
        s.refused(Sentences.ARGUMENT, "day -1", Calendars::small, y -> y.pledge(0, 1, -1));
        s.refused(Sentences.ARGUMENT, "day 1000", Calendars::small, y -> y.pledge(0, 1, 1000));
        s.says("Returns the day of the pledge before; NONE without one");
        SunsetDates days = Calendars.small();
        s.equal("without one", days.pledge(0, 0, 0), SunsetDates.NONE);
        s.equal("before on 0", days.pledge(0, 1, 999), 0);
        s.equal("before on 999", days.pledge(0, 1, 900), 999);
        days.slip(0, 99);
        s.equal("before slipped to 999", days.pledge(0, 0, 5), 999);
        days.takeBack(0);
        s.equal("before taken back", days.pledge(0, 0, 5), SunsetDates.NONE);
        days.undo();
        days.undo();
        s.equal("taking back undone", days.pledge(0, 0, 6), 5);
        s.says("`IndexOutOfBoundsException`");
        for (int bad : Sentences.noIndex(10)) {
            s.refused(Sentences.INDEX, "user " + bad, Calendars::full, y -> y.pledge(bad, 0, 0));
            s.refused(Sentences.INDEX, "user and day " + bad, Calendars::full, y -> y.pledge(bad, 7, -1));
        }
        for (int bad : Sentences.noIndex(8)) {
            s.refused(Sentences.INDEX, "version " + bad, Calendars::full, y -> y.pledge(9, bad, 0));
            s.refused(Sentences.INDEX, "version " + bad + " and day", Calendars::full, y -> y.pledge(9, bad, 1000));
        }
        s.refused(Sentences.INDEX, "user 0 of none", () -> sized(1, 0, 0), y -> y.pledge(0, 0, 0));
        s.says("`IllegalArgumentException`");
        for (int bad : Sentences.beyond(0, 999)) {
            s.refused(Sentences.ARGUMENT, "day " + bad, Calendars::full, y -> y.pledge(9, 7, bad));
        }
    }

    private static SunsetDates pledged(int day) {
        return with(Calendars::small, y -> y.pledge(0, 1, day));
    }

    private static void takeBack(Sentences s) {
        s.promise(7);
        s.says("Takes a pledge back");
        SunsetDates x = with(Calendars::small, y -> y.addUser(1, 1), y -> y.pledge(0, 1, 3), y -> y.pledge(1, 0, 4),
            y -> y.slip(0, 5), y -> y.takeBack(0));
        user(s, "taken back", x, 0, 0, 3, -1, -1, 1, 5);
        user(s, "the other user", x, 1, 1, 1, 0, 4, 0, 0);
        s.equal("users with a pledge", x.value(4), 1);
        s.equal("the version then", x.versionOn(0, 999), 0);
        s.equal("the slips so far stay", x.value(6), 1);
        s.says("Undoable");
        s.undoable("takeBack", () -> pledged(70), y -> y.takeBack(0));
        s.says("`user`: number of a user");
        for (int user : new int[] {0, 9}) {
            SunsetDates all = with(() -> sized(8, 0, 10), y -> y.pledge(user, 3, 4), y -> y.takeBack(user));
            s.equal("user " + user, all.user(user, 2), SunsetDates.NONE);
        }
        s.says("Returns the day of the pledge");
        for (int day : new int[] {0, 1, 999}) {
            s.equal("day", pledged(day).takeBack(0), day);
        }
        s.equal("after a slip", with(() -> pledged(900), y -> y.slip(0, 99)).takeBack(0), 999);
        s.equal("of the second one", with(() -> pledged(9), y -> y.pledge(0, 0, 8)).takeBack(0), 8);
        s.says("`IndexOutOfBoundsException`");
        for (int bad : Sentences.noIndex(10)) {
            s.refused(Sentences.INDEX, "user " + bad, Calendars::full, y -> y.takeBack(bad));
        }
        for (int bad : Sentences.noIndex(1)) {
            s.refused(Sentences.INDEX, "user " + bad, () -> pledged(0), y -> y.takeBack(bad));
        }
        s.refused(Sentences.INDEX, "user 0 of none", SunsetDates::new, y -> y.takeBack(0));
        s.says("`IllegalStateException`");
        s.refused(Sentences.STATE, "never", Calendars::small, y -> y.takeBack(0));
        s.refused(Sentences.STATE, "twice", () -> with(() -> pledged(0), y -> y.takeBack(0)), y -> y.takeBack(0));
        s.refused(Sentences.STATE, "undone", () -> with(() -> pledged(0), y -> y.undo()), y -> y.takeBack(0));
        s.refused(Sentences.STATE, "another user's", () -> with(() -> sized(8, 0, 10), y -> y.pledge(8, 0, 0)),
            y -> y.takeBack(9));
    }

    private static void slip(Sentences s) {
        s.promise(8);
        s.says("Lets a pledge slip by some days");
        SunsetDates x = with(() -> pledged(30), y -> y.addUser(1, 1), y -> y.pledge(1, 0, 4), y -> y.slip(0, 12));
        user(s, "slipped", x, 0, 0, 3, 1, 42, 1, 12);
        user(s, "the other user", x, 1, 1, 1, 0, 4, 0, 0);
        s.equal("the day before it", x.versionOn(0, 41), 0);
        s.equal("its day", x.versionOn(0, 42), 1);
        s.says("Undoable");
        s.undoable("slip", () -> pledged(70), y -> y.slip(0, 5));
        s.says("`user`: number of a user");
        for (int user : new int[] {0, 9}) {
            SunsetDates all = with(() -> sized(8, 0, 10), y -> y.pledge(user, 3, 4), y -> y.slip(user, 1));
            s.equal("user " + user, all.user(user, 3), 5);
        }
        s.says("`days`: 1 to 99");
        s.equal("1", pledged(7).slip(0, 1), 8);
        s.equal("99", pledged(7).slip(0, 99), 106);
        s.refused(Sentences.ARGUMENT, "0", () -> pledged(7), y -> y.slip(0, 0));
        s.refused(Sentences.ARGUMENT, "100", () -> pledged(7), y -> y.slip(0, 100));
        s.says("Returns the day of the pledge then");
        s.equal("from 0", pledged(0).slip(0, 1), 1);
        s.equal("up to 999 by 1", pledged(998).slip(0, 1), 999);
        s.equal("up to 999 by 99", pledged(900).slip(0, 99), 999);
        s.equal("twice", with(() -> pledged(0), y -> y.slip(0, 50)).slip(0, 51), 101);
    }

    private static void slipRefused(Sentences s) {
        s.says("`IndexOutOfBoundsException`");
        for (int bad : Sentences.noIndex(1)) {
            s.refused(Sentences.INDEX, "user " + bad, () -> pledged(0), y -> y.slip(bad, 1));
            s.refused(Sentences.INDEX, "user " + bad + " by 0", () -> pledged(0), y -> y.slip(bad, 0));
            s.refused(Sentences.INDEX, "user " + bad + " by 100", () -> pledged(999), y -> y.slip(bad, 100));
        }
        s.refused(Sentences.INDEX, "user 10", Calendars::full, y -> y.slip(10, 1));
        s.refused(Sentences.INDEX, "user 0 of none", SunsetDates::new, y -> y.slip(0, 1));
        s.says("`IllegalArgumentException`");
        for (int bad : Sentences.beyond(1, 99)) {
            s.refused(Sentences.ARGUMENT, "days " + bad, () -> pledged(500), y -> y.slip(0, bad));
            s.refused(Sentences.ARGUMENT, "without a pledge, days " + bad, Calendars::small, y -> y.slip(0, bad));
            s.refused(Sentences.ARGUMENT, "beyond 999, days " + bad, () -> pledged(999), y -> y.slip(0, bad));
        }
        s.says("`IllegalStateException`");
        s.refused(Sentences.STATE, "no pledge", Calendars::small, y -> y.slip(0, 1));
        s.refused(Sentences.STATE, "no pledge, 99", Calendars::small, y -> y.slip(0, 99));
        s.refused(Sentences.STATE, "taken back", () -> with(() -> pledged(5), y -> y.takeBack(0)), y -> y.slip(0, 1));
        s.refused(Sentences.STATE, "999 + 1", () -> pledged(999), y -> y.slip(0, 1));
        s.refused(Sentences.STATE, "901 + 99", () -> pledged(901), y -> y.slip(0, 99));
        s.refused(Sentences.STATE, "999 + 99", () -> pledged(999), y -> y.slip(0, 99));
        s.taken("900 + 99", () -> pledged(900), y -> y.slip(0, 99));
        s.taken("998 + 1", () -> pledged(998), y -> y.slip(0, 1));
    }

    private static void extend(Sentences s) {
        s.promise(9);
        s.says("Extends a version by some days");
        SunsetDates x = with(Calendars::small, y -> y.extend(0, 12));
        version(s, "extended", x, 0, 0, 112, 3, 12, 0);
        version(s, "the other one", x, 1, 50, 200, 2, 0, 0);
        s.equal("its last day", x.served(0, 0, 111), 0);
        s.equal("the day after", x.served(0, 0, 112), 3);
        s.says("Undoable");
        s.undoable("extend", Calendars::small, y -> y.extend(1, 5));
        s.says("`version`: number of a version");
        for (int version : new int[] {0, 7}) {
            SunsetDates all = with(SunsetDates::new);
            for (int i = 0; i < 8; i++) {
                all.addVersion(0, 100);
            }
            s.equal("version " + version, all.extend(version, 1), 101);
            s.equal("its days, version " + version, all.version(version, 3), 1);
        }
        s.says("`days`: 1 to 99");
        s.equal("1", Calendars.small().extend(0, 1), 101);
        s.equal("99", Calendars.small().extend(0, 99), 199);
        s.refused(Sentences.ARGUMENT, "0", Calendars::small, y -> y.extend(0, 0));
        s.refused(Sentences.ARGUMENT, "100", Calendars::small, y -> y.extend(0, 100));
        s.says("Returns its end then");
        s.equal("from 1", Calendars.single(0, 1).extend(0, 1), 2);
        s.equal("up to 1000 by 1", Calendars.single(0, 999).extend(0, 1), 1000);
        s.equal("up to 1000 by 99", Calendars.single(0, 901).extend(0, 99), 1000);
        s.equal("twice", with(Calendars::small, y -> y.extend(0, 50)).extend(0, 51), 201);
        s.says("`IndexOutOfBoundsException`");
        for (int bad : Sentences.noIndex(2)) {
            s.refused(Sentences.INDEX, "version " + bad, Calendars::small, y -> y.extend(bad, 1));
            s.refused(Sentences.INDEX, "version " + bad + " by 0", Calendars::small, y -> y.extend(bad, 0));
            s.refused(Sentences.INDEX, "version " + bad + " by 100", Calendars::small, y -> y.extend(bad, 100));
        }
        s.refused(Sentences.INDEX, "version 8", Calendars::full, y -> y.extend(8, 1));
        s.refused(Sentences.INDEX, "version 0 of none", SunsetDates::new, y -> y.extend(0, 1));
        s.says("`IllegalArgumentException`");
        for (int bad : Sentences.beyond(1, 99)) {
            s.refused(Sentences.ARGUMENT, "days " + bad, Calendars::small, y -> y.extend(1, bad));
            s.refused(Sentences.ARGUMENT, "beyond 1000, days " + bad, Calendars::bare, y -> y.extend(0, bad));
        }
        s.says("`IllegalStateException`");
        s.refused(Sentences.STATE, "1000 + 1", Calendars::bare, y -> y.extend(0, 1));
        s.refused(Sentences.STATE, "1000 + 99", Calendars::bare, y -> y.extend(0, 99));
        s.refused(Sentences.STATE, "902 + 99", () -> Calendars.single(0, 902), y -> y.extend(0, 99));
        s.taken("901 + 99", () -> Calendars.single(0, 901), y -> y.extend(0, 99));
        s.taken("999 + 1", () -> Calendars.single(998, 999), y -> y.extend(0, 1));
    }

    private static void addShim(Sentences s) {
        s.promise(10);
        s.says("Adds a shim");
        SunsetDates x = with(Calendars::small, y -> y.addShim(0, 1, 10, 20, 30), y -> y.addShim(1, 0, 11, 21, 31));
        s.equal("shims", x.value(3), 2);
        shim(s, "the first one", x, 0, 0, 1, 10, 20, 30);
        shim(s, "the second one", x, 1, 1, 0, 11, 21, 31);
        s.equal("shims of version 0", x.version(0, 4), 1);
        s.taken("the same one again", () -> with(Calendars::small, y -> y.addShim(0, 1, 10, 20, 30)),
            y -> y.addShim(0, 1, 10, 20, 30));
        s.taken("for what the version has and outside of its days", Calendars::small, y -> y.addShim(1, 1, 300, 400, 1));
        s.says("Undoable");
        s.undoable("addShim", Calendars::small, y -> y.addShim(0, 1, 10, 20, 30));
        s.says("`feature`: number of a feature");
        for (int it : new int[] {0, 9}) {
            s.equal("feature", with(() -> sized(8, 10, 0), y -> y.addShim(it, 3, 0, 9, 1)).shim(0, 0), it);
        }
        s.says("`version`: number of a version");
        for (int it : new int[] {0, 7}) {
            s.equal("version", with(() -> sized(8, 10, 0), y -> y.addShim(3, it, 0, 9, 1)).shim(0, 1), it);
        }
        s.says("`first`: its first day, 0 to 999");
        for (int it : new int[] {0, 999}) {
            s.equal("first", with(Calendars::small, y -> y.addShim(0, 0, it, 999, 1)).shim(0, 2), it);
        }
        s.refused(Sentences.ARGUMENT, "first -1", Calendars::small, y -> y.addShim(0, 0, -1, 999, 1));
        s.refused(Sentences.ARGUMENT, "first 1000", Calendars::small, y -> y.addShim(0, 0, 1000, 1000, 1));
        s.says("`last`: its last day, first to 999");
        for (int[] it : new int[][] {{0, 0}, {0, 999}, {500, 500}, {500, 501}, {999, 999}}) {
            s.equal("last", with(Calendars::small, y -> y.addShim(0, 0, it[0], it[1], 1)).shim(0, 3), it[1]);
        }
        for (int[] it : new int[][] {{0, -1}, {0, 1000}, {500, 499}, {999, 998}, {999, 1000}}) {
            s.refused(Sentences.ARGUMENT, it[0] + " to " + it[1], Calendars::small, y -> y.addShim(0, 0, it[0], it[1], 1));
        }
        s.says("`price`: 1 to 99");
        for (int it : new int[] {1, 99}) {
            s.equal("price", with(Calendars::small, y -> y.addShim(0, 0, 0, 9, it)).shim(0, 4), it);
        }
        s.refused(Sentences.ARGUMENT, "price 0", Calendars::small, y -> y.addShim(0, 0, 0, 9, 0));
        s.refused(Sentences.ARGUMENT, "price 100", Calendars::small, y -> y.addShim(0, 0, 0, 9, 100));
        s.says("Returns its number");
        SunsetDates many = Calendars.small();
        for (int i = 0; i < 12; i++) {
            s.equal("number", many.addShim(i % 2, 0, i, 20, 1), i);
        }
        many.dropShim(4);
        s.equal("number after a drop", many.addShim(0, 0, 0, 0, 1), 11);
    }

    private static void addShimRefused(Sentences s) {
        s.says("`IndexOutOfBoundsException`");
        for (Supplier<SunsetDates> made : Sentences.of(() -> sized(8, 10, 0), Calendars::full)) {
            for (int bad : Sentences.noIndex(10)) {
                s.refused(Sentences.INDEX, "feature " + bad, made, y -> y.addShim(bad, 0, 0, 9, 1));
                s.refused(Sentences.INDEX, "all, feature " + bad, made, y -> y.addShim(bad, 8, -1, 1000, 0));
            }
            for (int bad : Sentences.noIndex(8)) {
                s.refused(Sentences.INDEX, "version " + bad, made, y -> y.addShim(9, bad, 0, 9, 1));
                s.refused(Sentences.INDEX, "version " + bad + ", first", made, y -> y.addShim(0, bad, 1000, 1001, 1));
                s.refused(Sentences.INDEX, "version " + bad + ", last", made, y -> y.addShim(0, bad, 5, 4, 1));
                s.refused(Sentences.INDEX, "version " + bad + ", price", made, y -> y.addShim(0, bad, 5, 5, 100));
            }
        }
        s.refused(Sentences.INDEX, "feature 0 of none", () -> sized(1, 0, 0), y -> y.addShim(0, 0, 0, 9, 1));
        s.refused(Sentences.INDEX, "version 0 of none", () -> sized(0, 1, 0), y -> y.addShim(0, 0, 0, 9, 1));
        s.says("`IllegalArgumentException`");
        for (Supplier<SunsetDates> made : Sentences.of(Calendars::small, Calendars::full)) {
            for (int bad : Sentences.beyond(0, 999)) {
                s.refused(Sentences.ARGUMENT, "first " + bad, made, y -> y.addShim(0, 0, bad, 999, 1));
                s.refused(Sentences.ARGUMENT, "first and last " + bad, made, y -> y.addShim(0, 0, bad, bad, 1));
                s.refused(Sentences.ARGUMENT, "last " + bad, made, y -> y.addShim(0, 0, 0, bad, 1));
            }
            for (int bad : Sentences.beyond(500, 999)) {
                s.refused(Sentences.ARGUMENT, "500 to " + bad, made, y -> y.addShim(0, 0, 500, bad, 1));
            }
            for (int bad : Sentences.beyond(1, 99)) {
                s.refused(Sentences.ARGUMENT, "price " + bad, made, y -> y.addShim(1, 1, 0, 999, bad));
            }
        }
        s.says("`IllegalStateException`");
        s.refused(Sentences.STATE, "a thirteenth one", Calendars::full, y -> y.addShim(0, 0, 0, 9, 1));
        s.refused(Sentences.STATE, "a thirteenth one", Calendars::dearest, y -> y.addShim(9, 7, 999, 999, 99));
        s.taken("a twelfth one", () -> with(Calendars::full, y -> y.dropShim(0)), y -> y.addShim(9, 7, 999, 999, 99));
    }

    private static void dropShim(Sentences s) {
        s.promise(11);
        s.says("Drops a shim");
        for (int dropped : new int[] {0, 5, 11}) {
            SunsetDates x = with(Calendars::full, y -> y.dropShim(dropped));
            s.equal("shims", x.value(3), 11);
            for (int i = 0; i < 11; i++) {
                int was = i < dropped ? i : i + 1;
                shim(s, "without " + dropped, x, i, was % 10, was % 8, was, 900 + was, 1 + was);
            }
            s.equal("shims of its version", x.version(dropped % 8, 4), dropped == 5 ? 0 : 1);
        }
        s.says("Undoable");
        s.undoable("dropShim of the first one", Calendars::full, y -> y.dropShim(0));
        s.undoable("dropShim of the last one", Calendars::full, y -> y.dropShim(11));
        s.undoable("dropShim of the only one", () -> with(Calendars::small, y -> y.addShim(0, 0, 1, 2, 3)),
            y -> y.dropShim(0));
        s.says("`shim`: number of a shim");
        s.equal("0", with(Calendars::full, y -> y.dropShim(0)).shim(0, 4), 2);
        s.equal("11", with(Calendars::full, y -> y.dropShim(11)).shim(10, 4), 11);
        s.says("Returns the shims that are left");
        SunsetDates all = Calendars.full();
        for (int left = 11; left >= 0; left--) {
            s.equal("left", all.dropShim(left / 2), left);
        }
        s.says("`IndexOutOfBoundsException`");
        for (int bad : Sentences.noIndex(12)) {
            s.refused(Sentences.INDEX, "shim " + bad + " of twelve", Calendars::full, y -> y.dropShim(bad));
        }
        for (int bad : Sentences.noIndex(1)) {
            s.refused(Sentences.INDEX, "shim " + bad + " of one",
                () -> with(Calendars::small, y -> y.addShim(0, 0, 1, 2, 3)), y -> y.dropShim(bad));
        }
        s.refused(Sentences.INDEX, "shim 0 of none", Calendars::small, y -> y.dropShim(0));
        s.refused(Sentences.INDEX, "shim 11 of eleven", () -> with(Calendars::full, y -> y.dropShim(3)),
            y -> y.dropShim(11));
    }

    private CalendarSentences() { }
}
