/** Long runs of calls on the program and on the naive model: each answer and each exception must be the same. */
final class ModelTest {
    private static final int RUNS = 250;
    private static final int CALLS = 512;
    private static final Check check = new Check("ModelTest");

    interface Answer {
        Object get();
    }

    private final SunsetDates x = new SunsetDates();
    private final NaiveModel m = new NaiveModel();
    private final Numbers numbers;
    private final String run;
    private int calls = 0;

    private ModelTest(int seed) {
        numbers = new Numbers(seed);
        run = "run " + seed;
    }

    public static void main(String[] args) {
        for (int seed = 1; seed <= RUNS; seed++) {
            new ModelTest(seed).go(seed);
        }
        check.finish();
    }

    private void go(int seed) {
        if (seed % 5 != 0) {
            setUp(seed);
        }
        while (calls < CALLS - 10) {
            step();
        }
        same("digest", x::digest, m::digest);
        for (int i = 0; i < 5; i++) {
            same("undo", x::undo, m::undo);
        }
    }

    /** Calendars in which much is served, so that the what-if questions have answers. */
    private void setUp(int seed) {
        int versions = 1 + numbers.below(8);
        int features = 1 + numbers.below(10);
        int users = 1 + numbers.below(10);
        for (int i = 0; i < versions; i++) {
            int release = numbers.oneIn(2) ? 0 : numbers.below(500);
            int end = numbers.oneIn(2) ? 1000 : release + 1 + numbers.below(1000 - release);
            same("addVersion", () -> x.addVersion(release, end), () -> m.addVersion(release, end));
        }
        for (int i = 0; i < features; i++) {
            int set = seed % 2 == 0 ? numbers.below(1 << versions) | numbers.below(1 << versions)
                : numbers.below(1 << versions);
            same("addFeature", () -> x.addFeature(set), () -> m.addFeature(set));
        }
        for (int i = 0; i < users; i++) {
            int version = numbers.below(versions);
            int set = numbers.below(1 << features) & numbers.below(1 << features);
            same("addUser", () -> x.addUser(version, set), () -> m.addUser(version, set));
        }
        for (int i = 0; i < 8; i++) {
            int feature = numbers.below(features);
            int version = numbers.below(versions);
            int first = numbers.oneIn(2) ? 0 : numbers.below(1000);
            int last = numbers.oneIn(2) ? 999 : first + numbers.below(1000 - first);
            int price = 1 + numbers.below(99);
            same("addShim", () -> x.addShim(feature, version, first, last, price),
                () -> m.addShim(feature, version, first, last, price));
        }
    }

    private void same(String call, Answer program, Answer model) {
        calls++;
        check.equal(run + ", call " + calls + ", " + call, answer(program), answer(model));
    }

    private static String answer(Answer answer) {
        try {
            return String.valueOf(answer.get());
        } catch (RuntimeException e) {
            return "throws " + e.getClass().getName();
        }
    }

    private int version() {
        return numbers.index(m.value(0));
    }

    private int feature() {
        return numbers.index(m.value(1));
    }

    private int user() {
        return numbers.index(m.value(2));
    }

    private int shim() {
        return numbers.index(m.value(3));
    }

    private int day() {
        return numbers.within(0, 999);
    }

    private void step() {
        int kind = numbers.below(100);
        if (kind < 36) {
            change(kind);
        } else if (kind < 60) {
            look(numbers.below(9));
        } else if (kind < 90) {
            ask(numbers.below(12));
        } else if (kind < 94) {
            text();
        } else if (kind < 99) {
            same("undo", x::undo, m::undo);
        } else {
            same("digest", x::digest, m::digest);
        }
    }

    private void change(int kind) {
        int feature = feature();
        int version = version();
        int user = user();
        int shim = shim();
        int first = day();
        int last = numbers.oneIn(8) ? day() : Math.max(first, numbers.below(1000));
        if (kind < 3) {
            int release = numbers.within(0, 998);
            int end = numbers.oneIn(8) ? numbers.within(0, 1000)
                : numbers.within(Math.max(1, Math.min(release, 998) + 1), 1000);
            same("addVersion " + release + " " + end, () -> x.addVersion(release, end), () -> m.addVersion(release, end));
        } else if (kind < 6) {
            int set = numbers.set(m.value(0));
            same("addFeature " + set, () -> x.addFeature(set), () -> m.addFeature(set));
        } else if (kind < 10) {
            boolean has = numbers.oneIn(2);
            same("put", () -> x.put(feature, version, has), () -> m.put(feature, version, has));
        } else if (kind < 13) {
            int set = numbers.set(m.value(1));
            same("addUser " + set, () -> x.addUser(version, set), () -> m.addUser(version, set));
        } else if (kind < 18) {
            same("pledge", () -> x.pledge(user, version, first), () -> m.pledge(user, version, first));
        } else if (kind < 20) {
            same("takeBack", () -> x.takeBack(user), () -> m.takeBack(user));
        } else if (kind < 24) {
            int days = numbers.within(1, 99);
            same("slip " + days, () -> x.slip(user, days), () -> m.slip(user, days));
        } else if (kind < 27) {
            int days = numbers.within(1, 99);
            same("extend " + days, () -> x.extend(version, days), () -> m.extend(version, days));
        } else if (kind < 33) {
            int price = numbers.within(1, 99);
            same("addShim", () -> x.addShim(feature, version, first, last, price),
                () -> m.addShim(feature, version, first, last, price));
        } else {
            same("dropShim", () -> x.dropShim(shim), () -> m.dropShim(shim));
        }
    }

    private void look(int kind) {
        int feature = feature();
        int version = version();
        int user = user();
        int shim = shim();
        int day = day();
        int what = numbers.within(0, 4);
        switch (kind) {
            case 0, 1 -> same("version " + what, () -> x.version(version, what), () -> m.version(version, what));
            case 2, 3 -> {
                int about = numbers.within(0, 5);
                same("user " + about, () -> x.user(user, about), () -> m.user(user, about));
            }
            case 4 -> same("shim " + what, () -> x.shim(shim, what), () -> m.shim(shim, what));
            case 5 -> same("versionOn", () -> x.versionOn(user, day), () -> m.versionOn(user, day));
            case 6 -> {
                int number = numbers.within(0, 7);
                same("value " + number, () -> x.value(number), () -> m.value(number));
            }
            default -> same("served " + user + " " + feature + " " + day,
                () -> x.served(user, feature, day), () -> m.served(user, feature, day));
        }
    }

    private void ask(int kind) {
        int version = version();
        int user = user();
        int first = day();
        int last = numbers.oneIn(8) ? day() : Math.max(first, numbers.below(1000));
        switch (kind) {
            case 0 -> same("missing", () -> x.missing(user, first), () -> m.missing(user, first));
            case 1 -> same("stranded", () -> x.stranded(first), () -> m.stranded(first));
            case 2 -> same("costs", () -> x.costs(first, last), () -> m.costs(first, last));
            case 3, 4 -> same("firstStranded", () -> x.firstStranded(user, first), () -> m.firstStranded(user, first));
            case 5, 6 -> same("latestMove", () -> x.latestMove(user, version, first),
                () -> m.latestMove(user, version, first));
            case 7 -> same("bestVersion", () -> x.bestVersion(user, first), () -> m.bestVersion(user, first));
            case 8, 9 -> same("cheapest", () -> x.cheapest(user, first, last), () -> m.cheapest(user, first, last));
            case 10 -> same("shimsNeeded", () -> x.shimsNeeded(first), () -> m.shimsNeeded(first));
            default -> same("share", () -> x.share(first), () -> m.share(first));
        }
    }

    private void text() {
        if (numbers.oneIn(3)) {
            same("clearText", x::clearText, m::clearText);
        }
        String text = numbers.oneIn(2) ? "" : RandomTexts.order(numbers, 3);
        for (int i = 0; i < text.length() && calls < CALLS - 8; i++) {
            int sign = text.charAt(i);
            same("append " + sign, () -> x.append(sign), () -> m.append(sign));
        }
        if (numbers.oneIn(10)) {
            int sign = numbers.within(0, 127);
            same("append " + sign, () -> x.append(sign), () -> m.append(sign));
        }
        same("carryOut", x::carryOut, m::carryOut);
    }
}
