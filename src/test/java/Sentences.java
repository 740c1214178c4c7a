import java.io.IOException;
import java.nio.file.Files;
import java.nio.file.Path;
import java.util.ArrayList;
import java.util.LinkedHashMap;
import java.util.List;
import java.util.Map;
import java.util.function.Supplier;
import java.util.regex.Matcher;
import java.util.regex.Pattern;

/** The sentences of the document, and the checks that are made for each of them: none may be without a check. */
final class Sentences {
    static final Class<IndexOutOfBoundsException> INDEX = IndexOutOfBoundsException.class;
    static final Class<IllegalArgumentException> ARGUMENT = IllegalArgumentException.class;
    static final Class<IllegalStateException> STATE = IllegalStateException.class;
    static final int MIN = Integer.MIN_VALUE;
    static final int MAX = Integer.MAX_VALUE;

    private static final Path DOCUMENT = Path.of("../shared/DOC.md");
    private static final Pattern HEADED = Pattern.compile("(\\w+)[.] (.*)");
    private static final Pattern METHOD = Pattern.compile("`[^`]*`: (.*)");

    private final Check check;
    private final Map<String, Integer> checks = new LinkedHashMap<>();
    private String part = "";
    private String sentence = "";

    Sentences(String name) throws IOException {
        check = new Check(name);
        String section = "";
        for (String line : Files.readAllLines(DOCUMENT)) {
            if (line.startsWith("## ")) {
                section = line.substring(3);
            } else if (!line.isEmpty()) {
                read(section, line);
            }
        }
    }

    private void read(String section, String line) {
        if (section.equals("What it is")) {
            split(section, line);
        } else if (section.equals("Terms")) {
            Matcher headed = HEADED.matcher(line);
            boolean heads = headed.matches();
            split(heads ? headed.group(1) : section, heads ? headed.group(2) : line);
        } else if (section.startsWith("Promise ")) {
            Matcher method = METHOD.matcher(line);
            split(section.substring(0, section.indexOf(':')), method.matches() ? method.group(1) : line);
        }
    }

    private void split(String head, String line) {
        for (String one : line.split("(?<=[.]) (?=[A-Z])")) {
            checks.put(head + ": " + one, 0);
        }
    }

    void promise(int number) {
        part = "Promise " + number;
    }

    void term(String head) {
        part = head;
    }

    /** The checks that follow are for the sentence with these words in it. */
    void says(String words) {
        List<String> found = new ArrayList<>();
        for (String one : checks.keySet()) {
            if (one.startsWith(part + ": ") && one.contains(words)) {
                found.add(one);
            }
        }
        check.equal("sentences of " + part + " with the words " + words, found.size(), 1);
        sentence = found.isEmpty() ? "" : found.get(0);
    }

    private String counted(String what) {
        checks.merge(sentence, 1, Integer::sum);
        return sentence + " | " + what;
    }

    void equal(String what, long got, long due) {
        check.equal(counted(what), got, due);
    }

    void equal(String what, double got, double due) {
        check.equal(counted(what), got, due);
    }

    void equal(String what, String got, String due) {
        check.equal(counted(what), got, due);
    }

    /** The call throws nothing, whatever it answers. */
    void taken(String what, Supplier<SunsetDates> made, Check.Call call) {
        equal(what, thrown(made.get(), call), "nothing");
    }

    /** The call throws just this, and changes nothing at all, whether there is a text or not. */
    void refused(Class<? extends RuntimeException> due, String what, Supplier<SunsetDates> made, Check.Call call) {
        equal(what, thrown(made.get(), call), due.getName());
        untouched("what stands after " + what, made, call);
        untouched("what stands, with a text, after " + what, () -> texted(made), call);
    }

    /** Neither the state nor the text nor the saved states are changed, whether the call answers or throws. */
    void untouched(String what, Supplier<SunsetDates> made, Check.Call call) {
        equal(what, Portrait.of(() -> after(made, call)), Portrait.of(made));
    }

    /** The call saves one state, the one from before it, on top of those that there are. */
    void undoable(String what, Supplier<SunsetDates> made, Check.Call call) {
        for (int undone = 0; undone <= 4; undone++) {
            int undos = undone;
            List<String> before = Portrait.states(touched(made, undos));
            SunsetDates x = touched(made, undos);
            call.on(x);
            List<String> after = Portrait.states(x);
            String due = before.subList(0, Math.min(4, before.size())).toString();
            equal("states saved by " + what, after.subList(1, after.size()).toString(), due);
        }
    }

    /** With four saved states, less some that are undone; what is undone changed nothing. */
    private static SunsetDates touched(Supplier<SunsetDates> made, int undos) {
        SunsetDates x = made.get();
        for (int i = 0; i < 4; i++) {
            x.carryOut();
        }
        for (int i = 0; i < undos; i++) {
            x.undo();
        }
        return x;
    }

    private static SunsetDates texted(Supplier<SunsetDates> made) {
        SunsetDates x = made.get();
        x.clearText();
        Check.write(x, "e0+1;d0;");
        return x;
    }

    static SunsetDates after(Supplier<SunsetDates> made, Check.Call call) {
        SunsetDates x = made.get();
        thrown(x, call);
        return x;
    }

    private static String thrown(SunsetDates x, Check.Call call) {
        try {
            call.on(x);
        } catch (RuntimeException e) {
            return e.getClass().getName();
        }
        return "nothing";
    }

    /** The first numbers beyond on either side, and those that are farthest off. */
    static int[] beyond(int least, int most) {
        return new int[] {least - 1, most + 1, MIN, MAX};
    }

    /** What is no index below the count. */
    static int[] noIndex(int count) {
        return beyond(0, count - 1);
    }

    @SafeVarargs
    @SuppressWarnings("varargs")
    static List<Supplier<SunsetDates>> of(Supplier<SunsetDates>... made) {
        return List.of(made);
    }

    void finish() {
        for (Map.Entry<String, Integer> one : checks.entrySet()) {
            check.equal("a check for: " + one.getKey(), one.getValue() > 0 ? 1 : 0, 1);
        }
        check.finish();
    }
}
