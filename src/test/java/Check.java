import java.util.ArrayList;
import java.util.List;

/** Counts and prints the answers that are not the ones due. */
final class Check {
    private static final List<String> WRONG = new ArrayList<>();
    private static int asked = 0;
    private static String sentence = "";

    private Check() {
    }

    /** The words of the document that the next answers are asked for by. */
    static void sentence(String words) {
        sentence = "\"" + words + "\": ";
    }

    static void due(String call, long got, long want) {
        asked++;
        if (got != want) {
            String line = sentence + call + " answered " + got + ", due is " + want;
            WRONG.add(line);
            if (WRONG.size() <= 50) {
                System.out.println(line);
            }
        }
    }

    static void isTrue(String what, boolean holds) {
        due(what, holds ? 1 : 0, 1);
    }

    /** That a street of speed 0 is answered by the exception that the document names. */
    static void throwsForSpeed0(String call, RouteGuide g, int a, int b, long metres, int cls) {
        boolean thrown = false;
        try {
            g.street(a, b, metres, 0, cls);
        } catch (ArithmeticException e) {
            thrown = true;
        }
        isTrue(call + " throws ArithmeticException", thrown);
    }

    static void end() {
        System.out.println(asked + " answers asked for, " + WRONG.size() + " not as due");
        if (!WRONG.isEmpty()) {
            System.exit(1);
        }
    }
}
