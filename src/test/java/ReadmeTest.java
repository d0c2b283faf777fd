import java.io.IOException;
import java.lang.reflect.InvocationTargetException;
import java.lang.reflect.Method;
import java.lang.reflect.Modifier;
import java.nio.file.Files;
import java.nio.file.Path;
import java.util.List;
import java.util.Set;
import java.util.TreeSet;
import java.util.regex.Matcher;
import java.util.regex.Pattern;

/** README.md's run is called line by line; it and the table beside it leave out no call. */
public final class ReadmeTest {
    private static final String FIRST = "RouteGuide guide = new RouteGuide();";
    private static final Pattern CALL = Pattern.compile("guide\\.(\\w+)\\((.*)\\); +// (throws )?(-?\\w+)(: .*)?");
    private static final Pattern ROW = Pattern.compile("\\| `(\\w+)\\((.*)\\)` \\|.*");

    public static void main(String[] args) throws IOException, IllegalAccessException {
        List<String> lines = Files.readAllLines(Path.of("README.md"));
        Check.sentence("README.md says how to use the class");
        Set<String> inRun = run(lines);
        Set<String> inTable = table(lines);
        for (Method method : RouteGuide.class.getDeclaredMethods()) {
            if (Modifier.isPublic(method.getModifiers())) {
                Check.isTrue("the run has " + method.getName(), inRun.contains(method.getName()));
                Check.isTrue("the table has " + method.getName(), inTable.remove(method.getName()));
            }
        }
        Check.isTrue("the table has no other call: " + inTable, inTable.isEmpty());
        Check.end();
    }

    private static Set<String> run(List<String> lines) throws IllegalAccessException {
        Set<String> called = new TreeSet<>();
        RouteGuide guide = new RouteGuide();
        int first = lines.indexOf(FIRST);
        Check.isTrue("there is a run", first >= 0);
        for (int i = first + 1; !lines.get(i).equals("```"); i++) {
            Matcher call = CALL.matcher(lines.get(i));
            boolean isCall = call.matches();
            Check.isTrue("a call and its answer: " + lines.get(i), isCall);
            if (isCall) {
                called.add(call.group(1));
                String want = call.group(4);
                String got = answer(guide, methodOf(call.group(1)), call.group(2));
                Check.isTrue(lines.get(i) + " (answered " + got + ")", got.equals(want));
            }
        }
        return called;
    }

    private static Set<String> table(List<String> lines) {
        Set<String> told = new TreeSet<>();
        for (String line : lines) {
            Matcher row = ROW.matcher(line);
            if (row.matches()) {
                String name = row.group(1);
                told.add(name);
                Check.due("the arguments of " + name, split(row.group(2)).length, methodOf(name).getParameterCount());
            }
        }
        return told;
    }

    private static Method methodOf(String name) {
        for (Method method : RouteGuide.class.getDeclaredMethods()) {
            if (Modifier.isPublic(method.getModifiers()) && method.getName().equals(name)) {
                return method;
            }
        }
        throw new IllegalStateException("there is no call " + name);
    }

    private static String[] split(String arguments) {
        return arguments.isEmpty() ? new String[0] : arguments.split(", ");
    }

    private static String answer(RouteGuide guide, Method method, String written) throws IllegalAccessException {
        String[] words = split(written);
        Class<?>[] types = method.getParameterTypes();
        Object[] arguments = new Object[words.length];
        for (int i = 0; i < words.length; i++) {
            if (types[i] == boolean.class) {
                arguments[i] = Boolean.valueOf(words[i]);
            } else if (types[i] == long.class) {
                arguments[i] = Long.valueOf(words[i]);
            } else {
                arguments[i] = Integer.valueOf(words[i]);
            }
        }
        try {
            return method.invoke(guide, arguments).toString();
        } catch (InvocationTargetException e) {
            return e.getCause().getClass().getSimpleName();
        }
    }
}
