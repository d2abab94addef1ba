import java.io.IOException;
import java.nio.file.Files;
import java.nio.file.Path;
import java.util.ArrayList;
import java.util.List;

/** The program that README.md shows stands here line by line, and answers what its comments say. */
public final class ReadmeTest {
    private ReadmeTest() { }

    // README begins
    static ClockForTalk tell(ClockForTalk clock, String text) {
        clock.end(0);
        for (int i = 0; i < text.length(); i += 4) {
            int four = 0;
            for (int j = i; j < i + 4; j++) {
                four = four << 8 | (j < text.length() ? text.charAt(j) : 0);
            }
            clock.sign(four);
        }
        clock.end(text.length());
        return clock;
    }
    // README ends

    private static int[] firstTown() {
        // README begins
        ClockForTalk clock = new ClockForTalk();
        int people = tell(clock, "5:40;6:10;20:100").people();
        int things = tell(clock, "ab10-9=5;ac20-5=8").things();
        int sung = clock.cost(0, 1);
        int worth = clock.best(0);
        int which = clock.row(0);
        int seconds = clock.row(1);
        int shouted = clock.say(1, 3);
        int left = clock.person(0, 1);
        int late = clock.say(0, 1);
        int loan = clock.lend(2, 0, 50, 30);
        int done = tell(clock, "b0;d30").talk();
        int loss = clock.person(2, 6);
        int more = clock.undo();
        int fault = tell(clock, "5:x").people();
        // README ends
        return new int[] {people, things, sung, worth, which, seconds, shouted, left, late, loan, done, loss, more, fault};
    }

    /** The lines between the marks of this file. */
    private static List<String> program() throws IOException {
        List<String> lines = new ArrayList<>();
        boolean inside = false;
        for (String line : Files.readAllLines(Path.of("src/test/java/ReadmeTest.java"))) {
            boolean mark = line.trim().startsWith("// README");
            inside = mark ? line.endsWith("begins") : inside;
            if (inside && !mark) lines.add(line.trim());
        }
        return lines;
    }

    /** The lines of Java that README.md shows, what their comments say cut off and put among the answers. */
    private static List<String> shown(List<Integer> answers) throws IOException {
        List<String> lines = new ArrayList<>();
        boolean inside = false;
        for (String line : Files.readAllLines(Path.of("README.md"))) {
            boolean mark = line.startsWith("```");
            inside = mark ? line.equals("```java") : inside;
            if (!inside || mark) continue;
            int comment = line.indexOf("// ");
            if (comment >= 0) answers.add(Integer.parseInt(line.substring(comment + 3, line.indexOf(':', comment))));
            lines.add((comment >= 0 ? line.substring(0, comment) : line).trim());
        }
        return lines;
    }

    /** Each call of the face stands in README.md. */
    private static void everyCall() throws IOException {
        String page = Files.readString(Path.of("README.md"));
        for (java.lang.reflect.Method call : ClockForTalk.class.getDeclaredMethods()) {
            if (java.lang.reflect.Modifier.isPublic(call.getModifiers())) {
                Due.is("README.md names " + call.getName(), page.contains("`" + call.getName() + "`"), true);
            }
        }
    }

    public static void main(String[] args) throws IOException {
        List<Integer> answers = new ArrayList<>();
        List<String> shown = shown(answers);
        Due.same("the program of README.md", String.join("\n", shown), String.join("\n", program()));
        int[] got = firstTown();
        Due.is("answers that README.md tells", answers.size(), got.length);
        for (int i = 0; i < got.length && i < answers.size(); i++) {
            Due.is("answer " + i + " of README.md", got[i], answers.get(i));
        }
        everyCall();
        Due.finish();
    }
}
