import java.util.ArrayList;
import java.util.List;

/** Counts and prints the answers that are not the ones due. */
final class Check {
    private static final List<String> WRONG = new ArrayList<>();
    private static int asked = 0;

    private Check() {
    }

    static void due(String call, long got, long want) {
        asked++;
        if (got != want) {
            String line = call + " answered " + got + ", due is " + want;
            WRONG.add(line);
            if (WRONG.size() <= 50) {
                System.out.println(line);
            }
        }
    }

    static void isTrue(String what, boolean holds) {
        due(what, holds ? 1 : 0, 1);
    }

    static void end() {
        System.out.println(asked + " answers asked for, " + WRONG.size() + " not as due");
        if (!WRONG.isEmpty()) {
            System.exit(1);
        }
    }
}
