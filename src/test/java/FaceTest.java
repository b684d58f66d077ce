import java.lang.reflect.Constructor;
import java.lang.reflect.Field;
import java.lang.reflect.Method;
import java.lang.reflect.Modifier;
import java.util.ArrayList;
import java.util.Arrays;
import java.util.Collections;
import java.util.List;

/** The public face is the document's and no more (LANGUAGE.md, rule 1). */
public final class FaceTest {
    private static final String STATE = "IllegalStateException";
    private static final String INDEX = "IndexOutOfBoundsException";
    private static final String ARGUMENT = "IllegalArgumentException";
    private static final String ELEMENT = "NoSuchElementException";

    private static final String[] FACE = {
        "int addBlock() " + STATE,
        "boolean setInitial(int,int,int) " + INDEX + " " + ARGUMENT,
        "int input(int,int,int,int) " + INDEX + " " + ARGUMENT + " " + STATE,
        "int compute(int,int,int,int,int) " + INDEX + " " + ARGUMENT + " " + STATE,
        "int jump(int,int) " + INDEX,
        "int branch(int,int,int,int,int,int) " + INDEX + " " + ARGUMENT,
        "int clear(int) " + INDEX,
        "int blockCount()",
        "boolean setEffort(int,int) " + ARGUMENT,
        "int addThreshold(int) " + ARGUMENT + " " + STATE,
        "int analyze()",
        "boolean isAnalyzed()",
        "boolean isReachable(int) " + STATE + " " + INDEX,
        "int entry(int,int,boolean) " + STATE + " " + INDEX + " " + ELEMENT,
        "int exit(int,int,boolean) " + STATE + " " + INDEX + " " + ELEMENT,
        "boolean isDead(int,int) " + STATE + " " + INDEX,
        "int deadEdges() " + STATE,
        "int constants(int) " + STATE + " " + INDEX,
        "int visits(int) " + STATE + " " + INDEX,
        "int run(long,int) " + ARGUMENT,
        "int enteredBlock(int) " + INDEX,
        "int enteredWith(int,int) " + INDEX,
        "int result(int) " + INDEX,
        "long digest()",
    };

    public static void main(String[] args) {
        Check.yes("public final class", Modifier.isPublic(RangePropagator.class.getModifiers())
                && Modifier.isFinal(RangePropagator.class.getModifiers()));
        List<String> due = new ArrayList<>(Arrays.asList(FACE));
        List<String> got = new ArrayList<>();
        List<String> publicNames = new ArrayList<>();
        for (Method method : RangePropagator.class.getDeclaredMethods()) {
            if (!Modifier.isPrivate(method.getModifiers())) {
                got.add(textOf(method));
                publicNames.add(method.getName());
            }
        }
        Collections.sort(due);
        Collections.sort(got);
        Check.yes("the face is " + got + ", due is " + due, got.equals(due));
        privateMembers(publicNames);
        Check.end("FaceTest");
    }

    private static void privateMembers(List<String> publicNames) {
        Constructor<?>[] constructors = RangePropagator.class.getDeclaredConstructors();
        Check.yes("one public constructor without parameters", constructors.length == 1
                && Modifier.isPublic(constructors[0].getModifiers()) && constructors[0].getParameterCount() == 0);
        for (Field field : RangePropagator.class.getDeclaredFields()) {
            Check.yes(field.getName() + " is private", Modifier.isPrivate(field.getModifiers()));
        }
        List<Class<?>> classes = new ArrayList<>(Arrays.asList(RangePropagator.class.getDeclaredClasses()));
        Check.yes("some twelve classes", classes.size() <= 12);
        for (Class<?> nested : classes) {
            Check.yes(nested + " is static", Modifier.isStatic(nested.getModifiers()));
            Check.no(nested + " is public", Modifier.isPublic(nested.getModifiers()));
        }
        classes.add(RangePropagator.class);
        for (Class<?> each : classes) {
            for (Method method : each.getDeclaredMethods()) {
                Check.yes(method + " takes at most seven parameters", method.getParameterCount() <= 7);
                Check.no(method + " bears a public name", Modifier.isPrivate(method.getModifiers())
                        && publicNames.contains(method.getName()));
            }
        }
    }

    private static String textOf(Method method) {
        StringBuilder text = new StringBuilder();
        text.append(method.getReturnType().getSimpleName()).append(' ').append(method.getName()).append('(');
        String between = "";
        for (Class<?> type : method.getParameterTypes()) {
            text.append(between).append(type.getSimpleName());
            between = ",";
        }
        text.append(')');
        for (Class<?> type : method.getExceptionTypes()) {
            text.append(' ').append(type.getSimpleName());
        }
        return text.toString();
    }
}
