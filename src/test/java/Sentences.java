import java.util.function.Consumer;

/** Tests sentences of the document, each by a test of its own: one that is broken hides no other. */
final class Sentences {
    private int tested;
    private int broken;

    void holds(String sentence, Consumer<Check> test) {
        Check check = new Check();
        boolean ended = endsIn(check, test);
        tested++;
        if (!ended || !check.holds()) {
            broken++;
            System.out.println("broken: " + sentence);
        }
    }

    private static boolean endsIn(Check check, Consumer<Check> test) {
        try {
            test.accept(check);
            return true;
        } catch (RuntimeException e) {
            System.out.println("thrown: " + e);
            return false;
        }
    }

    void end() {
        System.out.println(tested + " sentences, " + broken + " broken");
        if (broken != 0 || tested == 0) {
            System.exit(1);
        }
    }
}
