import java.lang.reflect.Constructor;
import java.lang.reflect.Field;
import java.lang.reflect.Method;
import java.lang.reflect.Modifier;
import java.util.Arrays;
import java.util.Set;
import java.util.TreeSet;

/** 'The public face': the document's members and no other that can be seen from outside. */
public final class FaceTest {
    private static final String[] METHODS = {
        "public int RouteGuide.node(long,long)",
        "public int RouteGuide.street(int,int,long,long,int) throws java.lang.ArithmeticException",
        "public int RouteGuide.turn(int,int,boolean)",
        "public int RouteGuide.charger(int,long)",
        "public int RouteGuide.plan(int,int,int,long)",
        "public int RouteGuide.at(int)",
        "public long RouteGuide.cost()",
        "public int RouteGuide.snap(long,long,int)",
        "public int RouteGuide.traffic(int,long,long)",
        "public int RouteGuide.replan(long)",
        "public int RouteGuide.advice(int,int)",
        "public int RouteGuide.search(int)",
        "public int RouteGuide.last()",
        "public int RouteGuide.part(int,int)"};

    public static void main(String[] args) {
        Check.sentence("public final class RouteGuide");
        int modifiers = RouteGuide.class.getModifiers();
        Check.isTrue("public", Modifier.isPublic(modifiers));
        Check.isTrue("final", Modifier.isFinal(modifiers));
        Check.sentence("public RouteGuide()");
        Constructor<?>[] constructors = RouteGuide.class.getDeclaredConstructors();
        Check.due("constructors", constructors.length, 1);
        Check.isTrue("as written", constructors[0].toString().equals("public RouteGuide()"));
        Check.sentence("The public face");
        methods();
        fields();
        nestedClasses();
        Check.end();
    }

    private static boolean isHidden(int modifiers) {
        return Modifier.isPrivate(modifiers);
    }

    private static void methods() {
        Set<String> missing = new TreeSet<>(Arrays.asList(METHODS));
        for (Method method : RouteGuide.class.getDeclaredMethods()) {
            if (!isHidden(method.getModifiers()) && !method.isSynthetic()) {
                Check.isTrue("no other than the document's: " + method, missing.remove(method.toString()));
            }
        }
        Check.isTrue("none is missing: " + missing, missing.isEmpty());
    }

    private static void fields() {
        for (Field field : RouteGuide.class.getDeclaredFields()) {
            Check.isTrue("hidden: " + field, isHidden(field.getModifiers()) || field.isSynthetic());
        }
    }

    private static void nestedClasses() {
        for (Class<?> nested : RouteGuide.class.getDeclaredClasses()) {
            int modifiers = nested.getModifiers();
            Check.isTrue("static: " + nested, Modifier.isStatic(modifiers));
            Check.isTrue("not for all: " + nested, !Modifier.isPublic(modifiers) && !Modifier.isProtected(modifiers));
        }
    }
}
