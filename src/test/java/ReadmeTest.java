import java.io.IOException;
import java.nio.file.Files;
import java.nio.file.Path;
import java.util.List;

/** The examples of README.md: they answer what it says, and are those that stand there. */
public final class ReadmeTest {
    public static void main(String[] args) throws IOException {
        examples();
        sameLines(Files.readAllLines(Path.of("README.md")),
            Files.readAllLines(Path.of("src/test/java/ReadmeTest.java")));
        Check.end();
    }

    private static void examples() {
        KindJudge x = new KindJudge();
        int m = x.method(2);                  // a METHOD with two INTS as params
        x.op(m, 3, 0);                        // 0: LOAD 0
        x.op(m, 3, 1);                        // 1: LOAD 1
        x.op(m, 7, 3);                        // 2: REL /
        x.op(m, 32, 0);                       // 3: RETURN
        int joined = x.join(m);               // 0: right, else 1 and the first WRONG instruction
        int how = x.run(m, 7, 2, 0, 0);       // 0: it returned
        int returned = x.answer();            // 3
        int fails = x.run(m, 7, 0, 0, 0);     // 6: it failed, by 0
        int where = x.told(4);                // 2: the instruction in which it failed

        x.op(m, 32, 0);                       // 4: RETURN
        x.handler(m, 0, 4, 4, 6);             // 0 .. 3, failing by 0, lead to 4
        int notRight = x.run(m, 7, 0, 0, 0);  // -2: not found right any more
        x.frame(m, 4, 1);                     // at 4 there is one place on the stack,
        x.set(m, 4, 8, 1);                    // which is an INT
        int judged = x.judge(m);              // 0: right
        int kind = x.kind(2, 9);              // 1: ahead of REL the second place on the stack is an INT
        int caught = x.run(m, 7, 0, 0, 0);    // 0: it returned
        int number = x.answer();              // 6: what the HANDLER was given

        Check.due("joined", joined, 0);
        Check.due("how", how, 0);
        Check.due("returned", returned, 3);
        Check.due("fails", fails, 6);
        Check.due("where", where, 2);
        Check.due("notRight", notRight, -2);
        Check.due("judged", judged, 0);
        Check.due("kind", kind, 1);
        Check.due("caught", caught, 0);
        Check.due("number", number, 6);
    }

    private static void sameLines(List<String> readme, List<String> test) {
        boolean java = false;
        int lines = 0;
        int from = 0;
        for (String line : readme) {
            if (line.startsWith("```")) {
                java = line.equals("```java");
            } else if (java) {
                int at = from;
                while (at < test.size() && !test.get(at).strip().equals(line)) {
                    at++;
                }
                Check.due("README.md's line '" + line + "' is tested, in its order", at < test.size());
                from = at;
                lines++;
            }
        }
        Check.due("README.md has examples", lines > 0);
    }
}
