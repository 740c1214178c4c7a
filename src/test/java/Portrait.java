import java.util.ArrayList;
import java.util.List;
import java.util.function.Supplier;

/** All that can be seen of an object: its state, what its text does, and its saved states. */
final class Portrait {
    /** Two equal objects are made for it, as neither what the text does nor undo can be looked at without a change. */
    static String of(Supplier<SunsetDates> made) {
        SunsetDates x = made.get();
        StringBuilder portrait = new StringBuilder();
        portrait.append("digest ").append(x.digest());
        portrait.append(", carryOut ").append(x.carryOut()).append(" to ").append(Check.state(x));
        portrait.append(", text ").append(x.clearText());
        portrait.append(", states ").append(states(made.get()));
        return portrait.toString();
    }

    /** The state of now, the saved one before it, and so on. */
    static List<String> states(SunsetDates x) {
        List<String> states = new ArrayList<>();
        states.add(Check.state(x));
        while (states.size() < 10) {
            try {
                x.undo();
            } catch (IllegalStateException e) {
                return states;
            }
            states.add(Check.state(x));
        }
        return states;
    }

    private Portrait() { }
}
