import java.io.IOException;
import java.nio.file.Files;
import java.nio.file.Path;

/** Runs every test of the project; the arguments are the paths of BasketFlock.java, the document and README.md. */
public final class AllTests {
    public static void main(String[] arguments) throws IOException {
        BasketTests.run();
        CloudTests.run();
        LeaderTests.run();
        StepTests.run();
        FormationTests.run();
        CommandTests.run();
        LineTests.run();
        UndoTests.run();
        WalkTests.run();
        FaceTests.run(Files.readString(Path.of(arguments[0])));
        sentences(Path.of(arguments[1]));
        ReadmeTests.run(Files.readString(Path.of(arguments[2])));
        System.exit(Check.finish() ? 0 : 1);
    }

    private static void sentences(Path path) throws IOException {
        Sentences document = new Sentences(Files.readString(path));
        SentenceTests.compareWith(document);
        TermSentences.run();
        TextSentences.run();
        ChangeSentences.run();
        BasketSentences.run();
        CloudSentences.run();
        LeaderSentences.run();
        StepSentences.run();
        FormationSentences.run();
        CommandSentences.run();
        LineSentences.run();
        UndoSentences.run();
        for (String untested : document.untested()) {
            Check.fail("no test quotes the sentence of promise " + untested);
        }
    }
}
