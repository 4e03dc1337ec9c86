import java.io.IOException;
import java.lang.reflect.Method;
import java.lang.reflect.Modifier;
import java.nio.file.Files;
import java.nio.file.Path;
import java.util.ArrayList;
import java.util.List;

/** README.md shows code that runs and answers as it says, and names every call of the face. */
public final class ReadmeTest {
    private static final Path PAGE = Path.of("README.md");
    private static final Path SOURCE = Path.of("src/test/java/ReadmeTest.java");
    private static final Due due = new Due();

    public static void main(String[] args) throws IOException {
        example();
        List<String> shown = between(Files.readAllLines(PAGE), "```java", "```");
        List<String> run = between(Files.readAllLines(SOURCE), "// as shown", "// till here");
        due.yes("the page shows some code", shown.size() > 10);
        due.yes("the page shows " + shown + ", run is " + run, shown.equals(run));
        everyCall(Files.readString(PAGE));
        due.end("ReadmeTest");
    }

    private static void example() {
        // as shown
        SpotRows rows = new SpotRows();
        int first = rows.eye();                   // EYE 0: all others are weighed against it
        int second = rows.eye();                  // EYE 1
        rows.rules(1, 1);                         // one DAY is LEAST, one DAY is ENOUGH
        rows.tell(first, 0, 2, 4);                // DAY 0: 2 GROUPS, 4 SPOTS
        rows.tell(second, 0, 1, 2);
        int factor = rows.factor(second, first);  // 2000 thousandths
        int value = rows.day(0);                  // 24000 thousandths

        rows.tray(0, 1, 3);                       // TRAY 0: three numbers of 16 bits
        rows.write(0, 0, 3005);                   // 3 GROUPS, 5 SPOTS
        rows.write(0, 1, SpotRows.NONE);          // nothing is told
        rows.write(0, 2, 0);                      // 0 GROUPS, 0 SPOTS: nought is told
        rows.book(first, 10, 0, 3);               // DAYS 10 to 12
        int above = rows.active(first, 10, 12);   // 1: the FRACTION is above 0
        long top = rows.top();                    // 1
        long bottom = rows.bottom();              // 2

        int none = rows.month(5);                 // NONE
        int why = rows.status();                  // 5: nothing is told
        // till here
        due.is("first", first, 0);
        due.is("second", second, 1);
        due.is("factor", factor, 2000);
        due.is("value", value, 24000);
        due.is("above", above, 1);
        due.is("top", top, 1);
        due.is("bottom", bottom, 2);
        due.is("none", none, SpotRows.NONE);
        due.is("why", why, 5);
        due.is("DAYS 10 to 12 and DAY 0", rows.days(first), 3);
    }

    private static List<String> between(List<String> lines, String start, String end) {
        List<String> found = new ArrayList<>();
        boolean inside = false;
        for (String line : lines) {
            String bare = line.trim();
            if (inside && bare.equals(end)) {
                return found;
            }
            if (inside) {
                found.add(bare);
            }
            inside = inside || bare.equals(start);
        }
        return List.of();
    }

    private static void everyCall(String page) {
        for (Method method : SpotRows.class.getDeclaredMethods()) {
            if (Modifier.isPublic(method.getModifiers())) {
                due.yes("the page has " + method.getName(), page.contains("`" + method.getName() + "("));
                due.yes("with its arguments", method.getParameterCount() == shownArguments(page, method));
            }
        }
    }

    private static int shownArguments(String page, Method method) {
        int start = page.indexOf("`" + method.getName() + "(") + method.getName().length() + 2;
        String inside = page.substring(start, page.indexOf(')', start));
        return inside.isEmpty() ? 0 : inside.split(",").length;
    }
}
