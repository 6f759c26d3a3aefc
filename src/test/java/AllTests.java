import java.io.IOException;
import java.nio.file.Files;
import java.nio.file.Path;

/** Runs every test of the project; the argument is the path of BasketFlock.java. */
public final class AllTests {
    public static void main(String[] arguments) throws IOException {
        BasketTests.run();
        CloudTests.run();
        LeaderTests.run();
        StepTests.run();
        FormationTests.run();
        CommandTests.run();
        LineTests.run();
        UndoTests.run();
        WalkTests.run();
        FaceTests.run(Files.readString(Path.of(arguments[0])));
        System.exit(Check.finish() ? 0 : 1);
    }
}
