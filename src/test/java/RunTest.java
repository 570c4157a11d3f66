import java.io.IOException;
import java.nio.file.Files;
import java.nio.file.Paths;

/** .ci/run ends with 0 only if all tests pass: tried on small projects, each with one thing that is wrong. */
public final class RunTest {
    private static final String PROGRAM = "src/main/java/AmplifierDesk.java";
    private static final String OWN = "src/test/java/";
    private static final String SHARED = "../shared/tests/";
    private static final String PASSING = "public final class %s { public static void main(String[] a) { "
            + "System.out.println(\"%s has run\"); } }\n";

    public static void main(String[] args) throws IOException, InterruptedException {
        Check.equal(".ci/run can be run", Files.isExecutable(Paths.get(".ci/run")) ? 1 : 0, 1);
        allPass();
        fails("an own test that ends with 1", OWN + "FirstTest.java", ending("FirstTest"), true);
        fails("an own test that throws", OWN + "FirstTest.java", throwing("FirstTest"), true);
        fails("an own test that does not compile", OWN + "FirstTest.java", "no Java", false);
        fails("a shared test that ends with 1", SHARED + "SharedRuns.java", ending("SharedRuns"), true);
        fails("a shared test that throws", SHARED + "SharedRuns.java", throwing("SharedRuns"), true);
        fails("a shared test that does not compile", SHARED + "SharedRuns.java", "no Java", true);
        fails("a program that does not compile", PROGRAM, "no Java", false);
        noSharedTests();
        Check.end();
    }

    private static void allPass() throws IOException, InterruptedException {
        Workplace place = small();
        place.write(SHARED + "deeper/OtherRuns.java", passing("OtherRuns"));
        place.write(OWN + "Helper.java", "final class Helper { }\n");
        Check.equal("all pass", place.run(".ci/run"), 0);
        for (String name : new String[] {"FirstTest", "SecondTest", "SharedRuns", "OtherRuns"}) {
            hasRun(place, name);
        }
        Check.equal("the last line", lastLine(place.printed), "4 tests ran, 0 failed");
        Check.equal("from elsewhere", place.runIn(place.project.resolve("src"), "../.ci/run"), 0);
        Check.equal("the last line from elsewhere", lastLine(place.printed), "4 tests ran, 0 failed");
        place.remove();
    }

    /** With this file in place of a good one; the tests behind the wrong one run all the same. */
    private static void fails(String what, String name, String text, boolean goesOn)
            throws IOException, InterruptedException {
        Workplace place = small();
        place.write(name, text);
        Check.equal(what + " is noticed", place.run(".ci/run || echo noticed") == 0
                && lastLine(place.printed).equals("noticed") ? 1 : 0, 1);
        if (goesOn) {
            hasRun(place, "SecondTest");
            String named = name.endsWith("FirstTest.java") ? "FirstTest" : "SharedRuns";
            Check.equal(what + " is named", place.printed.matches("(?s).*FAILED: \\S*" + named + ".*") ? 1 : 0, 1);
        }
        if (goesOn && !name.startsWith(SHARED)) {
            hasRun(place, "SharedRuns");
        }
        place.remove();
    }

    private static void noSharedTests() throws IOException, InterruptedException {
        Workplace place = small();
        Files.delete(place.project.resolve(SHARED + "SharedRuns.java"));
        Check.equal("no shared test", place.run(".ci/run || echo noticed"), 0);
        Check.equal("no shared test is noticed", lastLine(place.printed), "noticed");
        Files.delete(place.project.resolve(SHARED));
        Check.equal("no shared tests' directory", place.run(".ci/run || echo noticed"), 0);
        Check.equal("no shared tests' directory is noticed", lastLine(place.printed), "noticed");
        place.remove();
    }

    private static Workplace small() throws IOException {
        Workplace place = new Workplace();
        place.write(PROGRAM, "public final class AmplifierDesk { }\n");
        place.write(OWN + "FirstTest.java", passing("FirstTest"));
        place.write(OWN + "SecondTest.java", passing("SecondTest"));
        place.write(SHARED + "SharedRuns.java", passing("SharedRuns"));
        return place;
    }

    private static String passing(String name) {
        return PASSING.replace("%s", name);
    }

    private static String ending(String name) {
        return passing(name).replace("} }", "System.exit(1); } }");
    }

    private static String throwing(String name) {
        return passing(name).replace("} }", "throw new RuntimeException(); } }");
    }

    private static void hasRun(Workplace place, String name) {
        Check.equal(name + " has run", place.printed.contains(name + " has run\n") ? 1 : 0, 1);
    }

    private static String lastLine(String text) {
        String[] lines = text.split("\n");
        return lines[lines.length - 1];
    }
}
