import java.math.BigInteger;
import java.util.ArrayList;
import java.util.List;
import java.util.function.Supplier;

/** Promises 30 and 31, sentence by sentence. */
final class StateSentences {
    static void tell(Sentences s) {
        undo(s);
        undoRefused(s);
        digest(s);
        digestOverflow(s);
    }

    private static SunsetDates with(Supplier<SunsetDates> made, Check.Call... calls) {
        return CalendarSentences.with(made, calls);
    }

    private static void undo(Sentences s) {
        s.promise(30);
        s.says("Restores the most recently saved state and removes it from the saved states");
        SunsetDates x = new SunsetDates();
        for (int i = 0; i < 4; i++) {
            x.addVersion(i, 10 + i);
        }
        for (int left = 3; left >= 0; left--) {
            x.undo();
            s.equal("the most recent one", x.value(0), left);
        }
        SunsetDates between = with(SunsetDates::new, y -> y.addVersion(1, 10), y -> y.addVersion(2, 20), y -> y.undo(),
            y -> y.addVersion(3, 30), y -> y.undo());
        s.equal("a state saved after an undo is undone first", between.value(0), 1);
        between.undo();
        s.equal("then the one before both", between.value(0), 0);
        SunsetDates again = with(SunsetDates::new, y -> y.addVersion(1, 10), y -> y.undo(), y -> y.addVersion(2, 20));
        s.equal("what was undone does not come back", again.version(0, 0), 2);
        s.says("Returns the number of saved states that remain");
        for (int calls = 1; calls <= 7; calls++) {
            SunsetDates it = new SunsetDates();
            for (int i = 0; i < calls; i++) {
                it.carryOut();
            }
            for (int left = Math.min(4, calls) - 1; left >= 0; left--) {
                s.equal("remain of " + calls, it.undo(), left);
            }
        }
    }

    private static void undoRefused(Sentences s) {
        s.says("`IllegalStateException` if there is no saved state");
        s.refused(Sentences.STATE, "a new object", SunsetDates::new, y -> y.undo());
        s.refused(Sentences.STATE, "one undone", () -> with(SunsetDates::new, y -> y.addVersion(0, 1), y -> y.undo()),
            y -> y.undo());
        s.refused(Sentences.STATE, "four undone", () -> with(Calendars::full, y -> y.undo(), y -> y.undo(),
            y -> y.undo(), y -> y.undo()), y -> y.undo());
        s.taken("the fourth one", () -> with(Calendars::full, y -> y.undo(), y -> y.undo(), y -> y.undo()),
            y -> y.undo());
        s.refused(Sentences.STATE, "only calls that are not undoable", () -> with(SunsetDates::new, y -> y.append('x'),
            y -> y.carryOut(), y -> y.clearText(), y -> y.value(0)), y -> y.undo());
    }

    /** The values in the order of the document, as an object with so many saved states tells them. */
    private static List<Integer> values(SunsetDates x, int length, int saved) {
        List<Integer> values = new ArrayList<>();
        values.add(length);
        for (int what = 0; what <= 7; what++) {
            values.add(x.value(what));
        }
        for (int version = 0; version < x.value(0); version++) {
            for (int what = 0; what <= 4; what++) {
                values.add(x.version(version, what));
            }
        }
        for (int user = 0; user < x.value(2); user++) {
            for (int what = 0; what <= 5; what++) {
                values.add(x.user(user, what));
            }
            values.add(x.firstStranded(user, 0));
        }
        for (int shim = 0; shim < x.value(3); shim++) {
            for (int what = 0; what <= 4; what++) {
                values.add(x.shim(shim, what));
            }
        }
        values.add(x.costs(0, 999));
        values.add(saved);
        return values;
    }

    private static BigInteger wholeHash(List<Integer> values) {
        BigInteger hash = BigInteger.valueOf(3733);
        for (int value : values) {
            hash = hash.multiply(BigInteger.valueOf(31)).add(BigInteger.valueOf(value));
        }
        return hash;
    }

    private static void digest(Sentences s) {
        s.promise(31);
        s.says("Returns a hash of the state");
        s.untouched("digest", Calendars::full, y -> y.digest());
        s.equal("twice", Calendars.full().digest(), Calendars.full().digest());
        s.says("Start with h = 3733");
        List<Integer> none = List.of(0, 0, 0, 0, 0, 0, 0, 0, 0, 0, 0);
        s.equal("a new object", new SunsetDates().digest(), wholeHash(none).longValue());
        for (int length : new int[] {1, 99, 100}) {
            SunsetDates x = TextSentences.texted(SunsetDates::new, "x".repeat(length));
            s.equal("length " + length, x.digest(), wholeHash(values(x, length, 0)).longValue());
        }
        for (int saved = 0; saved <= 4; saved++) {
            SunsetDates x = new SunsetDates();
            for (int i = 0; i < saved; i++) {
                x.carryOut();
            }
            s.equal("saved states " + saved, x.digest(), wholeHash(values(x, 0, saved)).longValue());
        }
        SunsetDates fifth = with(SunsetDates::new, y -> y.carryOut(), y -> y.carryOut(), y -> y.carryOut(),
            y -> y.carryOut(), y -> y.carryOut());
        s.equal("a fifth saved state", fifth.digest(), wholeHash(values(fifth, 0, 4)).longValue());
        SunsetDates one = Calendars.single(10, 20);
        s.equal("one version and one user", one.digest(),
            wholeHash(List.of(0, 1, 1, 1, 0, 0, 1, 0, 990, 10, 20, 1, 0, 0, 0, 1, -1, -1, 0, 0, 0, 0, 3)).longValue());
        one.pledge(0, 0, 999);
        s.equal("with a pledge", one.digest(),
            wholeHash(List.of(0, 1, 1, 1, 0, 1, 1, 0, 990, 10, 20, 1, 0, 0, 0, 1, 0, 999, 0, 0, 0, 0, 4)).longValue());
    }

    private static void digestOverflow(Sentences s) {
        s.says("Returns the hash, with the overflow of long arithmetic ignored");
        for (Supplier<SunsetDates> made : Sentences.of(Calendars::small, Calendars::full, Calendars::dearest,
                () -> TextSentences.texted(Calendars::full, "e0+1;"))) {
            SunsetDates x = made.get();
            int length = x.clearText();
            BigInteger whole = wholeHash(values(x, length, 4));
            s.equal("longer than a long", whole.bitLength() > 63 ? 1 : 0, 1);
            s.equal("its lowest 64 bits", made.get().digest(), whole.longValue());
        }
    }

    private StateSentences() { }
}
