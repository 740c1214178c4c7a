import java.io.IOException;
import java.nio.file.Files;
import java.nio.file.Path;

/** What README.md shows: its calls stand there as they stand here, and have the answers that it tells. */
final class ReadmeTest {
    private static final Check check = new Check("ReadmeTest");

    public static void main(String[] args) throws IOException {
        String readme = Files.readString(Path.of("README.md"));
        calls(readme);
        orders(readme);
        check.finish();
    }

    private static void calls(String readme) {
        SunsetDates calendar = new SunsetDates();
        int old = calendar.addVersion(0, 300);
        int next = calendar.addVersion(100, 1000);
        int search = calendar.addFeature(1 << old);
        int user = calendar.addUser(old, 1 << search);
        shows(readme, "calendar.firstStranded(user, 0);               // " + calendar.firstStranded(user, 0) + ":");
        calendar.addShim(search, next, 0, 999, 5);
        shows(readme, "calendar.latestMove(user, next, 0);            // " + calendar.latestMove(user, next, 0) + "\n");
        calendar.pledge(user, next, 300);
        shows(readme, "calendar.costs(0, 999);                        // " + calendar.costs(0, 999) + "\n");
        calendar.undo();
        check.equal("the pledge is taken back", calendar.user(user, 3), SunsetDates.NONE);
    }

    private static void orders(String readme) {
        SunsetDates calendar = Calendars.small();
        int shims = calendar.value(3);
        String[] orders = {"p01@300;", "l0+9;", "e0+99;", "s01:0-999,50;", "d0;"};
        for (String order : orders) {
            shows(readme, "`" + order + "`");
            Check.write(calendar, order);
        }
        check.equal("the orders of the README", calendar.carryOut(), orders.length);
        check.equal("pledged and slipped", calendar.user(0, 3), 309);
        check.equal("added and dropped", calendar.value(3), shims);
    }

    private static void shows(String readme, String line) {
        check.equal("README.md shows " + line, readme.contains(line) ? 1 : 0, 1);
    }
}
