import java.io.IOException;
import java.nio.file.Files;
import java.nio.file.Path;

/** Runs every test of the project; the arguments are the paths of the program's source and of README.md. */
public final class AllTests {
    private AllTests() {
    }

    public static void main(String[] args) throws IOException, ReflectiveOperationException {
        Check check = new Check();
        Promise01To04Test.test(check);
        Promise05To07Test.test(check);
        Promise08Test.test(check);
        Promise09Test.test(check);
        Promise10To11Test.test(check);
        Promise12To14Test.test(check);
        Promise15To16Test.test(check);
        Promise17To19Test.test(check);
        Promise20To21Test.test(check);
        EdgesOfArgumentsTest.test(check);
        EdgesOfSandTest.test(check);
        EdgesOfWavesTest.test(check);
        EdgesOfSettlingTest.test(check);
        EdgesOfTextsTest.test(check);
        EdgesOfHistoryTest.test(check);
        RefusalsTest.test(check);
        ModelTest.test(check);
        FaceTest.test(check);
        LanguageTest.test(check, Path.of(args[0]));
        ReadmeTest.test(check, Files.readString(Path.of(args[1])));
        System.out.println(check.asked() + " answers of the project's tests, " + check.wrong() + " wrong");
        if (check.wrong() != 0) {
            System.exit(1);
        }
    }
}
