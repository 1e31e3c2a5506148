import java.io.IOException;

/** Each sentence of the document, whose path is the second argument, that names a boundary case has a test here. */
public final class BoundaryTest {
    private BoundaryTest() {
    }

    public static void main(String[] args) throws IOException {
        Sentences s = new Sentences(args[1]);
        TermBoundaries.all(s);
        ChangeBoundaries.all(s);
        QuestionBoundaries.all(s);
        RefusedBoundaries.all(s);
        s.checkThatEachClauseIsHeld();
        System.out.println(s.tests() + " tests of sentences, " + s.wrong() + " things do not hold");
        if (s.wrong() != 0) {
            System.exit(1);
        }
    }
}
