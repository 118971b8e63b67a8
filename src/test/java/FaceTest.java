import java.io.IOException;
import java.lang.reflect.Constructor;
import java.lang.reflect.Field;
import java.lang.reflect.Method;
import java.lang.reflect.Modifier;
import java.nio.file.Files;
import java.nio.file.Path;
import java.util.ArrayList;
import java.util.Arrays;
import java.util.Collections;
import java.util.List;
import java.util.regex.Matcher;
import java.util.regex.Pattern;

/** The public face: just the members that the document names (and rule 1 of LANGUAGE.md). */
public final class FaceTest {
    private static final String[] METHODS = {
        "int back(int)",
        "int begin(int,boolean)",
        "int close()",
        "int end(boolean)",
        "int event(int,int,int)",
        "int find(int,int,int)",
        "int lay(long)",
        "int may(int,int)",
        "int next(int)",
        "int path(int,int)",
        "int place(int)",
        "int proved(int,int,int,int,int,int,long)",
        "int prune(int)",
        "int size(int,int)",
        "int subscribe(int,int)",
        "int tell(int,int,int,int,long)",
        "int told(int)",
        "int wipe()",
        "long filter(int) throws ArrayIndexOutOfBoundsException",
        "long out(int) throws ArrayIndexOutOfBoundsException",
        "long root(int) throws ArrayIndexOutOfBoundsException",
        "long value(int,int) throws NullPointerException,ArrayIndexOutOfBoundsException",
    };
    /** What the interface says ahead of calls, and these calls. */
    private static final String[][] PARTS = {
        {"calls", "begin", "tell", "end", "told"},
        {"blocks", "close", "back", "prune", "size", "event", "value", "root", "filter", "may", "find"},
        {"proofs", "path", "out", "lay", "wipe", "proved"},
        {"subscribers", "subscribe", "next", "place"},
    };
    private static final Path SOURCE = Path.of("src", "main", "java", "EventRows.java");
    private static final Pattern PART_OR_CALL =
            Pattern.compile("    (?:// ---- (calls|blocks|proofs|subscribers)|public (?:int|long) (\\w+)\\(.*)");
    private static final String[] CONSTANTS = {"BAD", "FULL", "GONE", "NONE", "STATE"};

    private static final Due DUE = new Due("FaceTest");

    public static void main(String[] args) throws IOException {
        theClass();
        theMethods();
        theConstants();
        theParts();
        DUE.end();
    }

    private static void theClass() {
        Class<?> face = EventRows.class;
        DUE.is("public final", face.getModifiers(), Modifier.PUBLIC | Modifier.FINAL);
        Constructor<?>[] constructors = face.getDeclaredConstructors();
        DUE.is("constructors", constructors.length, 1);
        DUE.is("the constructor's parameters", constructors[0].getParameterCount(), 0);
        DUE.is("the constructor is public", constructors[0].getModifiers(), Modifier.PUBLIC);
        for (Class<?> inside : face.getDeclaredClasses()) {
            if (!Modifier.isStatic(inside.getModifiers()) || Modifier.isPublic(inside.getModifiers())) {
                DUE.report(inside.getName() + " is public or not static");
            }
        }
    }

    private static void theMethods() {
        List<String> seen = new ArrayList<>();
        for (Method method : EventRows.class.getDeclaredMethods()) {
            if (!Modifier.isPrivate(method.getModifiers())) {
                seen.add(signature(method));
            }
        }
        Collections.sort(seen);
        same("methods", seen, Arrays.asList(METHODS));
    }

    private static void theParts() throws IOException {
        List<String> seen = new ArrayList<>();
        for (String line : Files.readAllLines(SOURCE)) {
            Matcher parts = PART_OR_CALL.matcher(line);
            if (parts.matches()) {
                seen.add(parts.group(1) == null ? parts.group(2) : parts.group(1));
            }
        }
        int from = 0;
        for (String[] part : PARTS) {
            List<String> want = Arrays.asList(part);
            DUE.sentence("Terms", "Ahead of the calls `" + String.join("`, `", want.subList(1, want.size()))
                    + "` the interface says: ---- " + part[0] + ".");
            int to = Math.min(from + part.length, seen.size());
            same("the part and its calls", seen.subList(from, to), want);
            from = to;
        }
        DUE.is("lines of parts and calls", seen.size(), from);
    }

    private static void theConstants() {
        List<String> seen = new ArrayList<>();
        for (Field field : EventRows.class.getDeclaredFields()) {
            if (!Modifier.isPrivate(field.getModifiers())) {
                seen.add(field.getName());
                DUE.is(field.getName(), field.getModifiers(), Modifier.PUBLIC | Modifier.STATIC | Modifier.FINAL);
            }
        }
        Collections.sort(seen);
        same("constants", seen, Arrays.asList(CONSTANTS));
        DUE.is("BAD", EventRows.BAD, -1);
        DUE.is("STATE", EventRows.STATE, -2);
        DUE.is("FULL", EventRows.FULL, -3);
        DUE.is("GONE", EventRows.GONE, -4);
        DUE.is("NONE", EventRows.NONE, -5);
    }

    private static String signature(Method method) {
        String text = method.getReturnType() + " " + method.getName()
                + "(" + names(method.getParameterTypes()) + ")";
        Class<?>[] thrown = method.getExceptionTypes();
        return thrown.length == 0 ? text : text + " throws " + names(thrown);
    }

    private static String names(Class<?>[] types) {
        List<String> names = new ArrayList<>();
        for (Class<?> type : types) {
            names.add(type.getSimpleName());
        }
        return String.join(",", names);
    }

    private static void same(String what, List<String> seen, List<String> want) {
        if (!seen.equals(want)) {
            DUE.report(what + " are " + seen + ", due are " + want);
        }
    }
}
