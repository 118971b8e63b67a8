import java.lang.reflect.Constructor;
import java.lang.reflect.Field;
import java.lang.reflect.Method;
import java.lang.reflect.Modifier;
import java.util.ArrayList;
import java.util.Arrays;
import java.util.Collections;
import java.util.List;

/** The public face: just the members that the document names (and rule 1 of LANGUAGE.md). */
public final class FaceTest {
    private static final String[] METHODS = {
        "int back(int)",
        "int begin(int,boolean)",
        "int close()",
        "int end(boolean)",
        "int event(int,int,int)",
        "int find(int,int,int)",
        "int lay(long)",
        "int may(int,int)",
        "int next(int)",
        "int path(int,int)",
        "int place(int)",
        "int proved(int,int,int,int,int,int,long)",
        "int prune(int)",
        "int size(int,int)",
        "int subscribe(int,int)",
        "int tell(int,int,int,int,long)",
        "int told(int)",
        "int wipe()",
        "long filter(int) throws ArrayIndexOutOfBoundsException",
        "long out(int) throws ArrayIndexOutOfBoundsException",
        "long root(int) throws ArrayIndexOutOfBoundsException",
        "long value(int,int) throws NullPointerException,ArrayIndexOutOfBoundsException",
    };
    private static final String[] CONSTANTS = {"BAD", "FULL", "GONE", "NONE", "STATE"};

    private static final Due DUE = new Due("FaceTest");

    public static void main(String[] args) {
        theClass();
        theMethods();
        theConstants();
        DUE.end();
    }

    private static void theClass() {
        Class<?> face = EventRows.class;
        DUE.is("public final", face.getModifiers(), Modifier.PUBLIC | Modifier.FINAL);
        Constructor<?>[] constructors = face.getDeclaredConstructors();
        DUE.is("constructors", constructors.length, 1);
        DUE.is("the constructor's parameters", constructors[0].getParameterCount(), 0);
        DUE.is("the constructor is public", constructors[0].getModifiers(), Modifier.PUBLIC);
        for (Class<?> inside : face.getDeclaredClasses()) {
            if (!Modifier.isStatic(inside.getModifiers()) || Modifier.isPublic(inside.getModifiers())) {
                DUE.report(inside.getName() + " is public or not static");
            }
        }
    }

    private static void theMethods() {
        List<String> seen = new ArrayList<>();
        for (Method method : EventRows.class.getDeclaredMethods()) {
            if (!Modifier.isPrivate(method.getModifiers())) {
                seen.add(signature(method));
            }
        }
        Collections.sort(seen);
        same("methods", seen, Arrays.asList(METHODS));
    }

    private static void theConstants() {
        List<String> seen = new ArrayList<>();
        for (Field field : EventRows.class.getDeclaredFields()) {
            if (!Modifier.isPrivate(field.getModifiers())) {
                seen.add(field.getName());
                DUE.is(field.getName(), field.getModifiers(), Modifier.PUBLIC | Modifier.STATIC | Modifier.FINAL);
            }
        }
        Collections.sort(seen);
        same("constants", seen, Arrays.asList(CONSTANTS));
        DUE.is("BAD", EventRows.BAD, -1);
        DUE.is("STATE", EventRows.STATE, -2);
        DUE.is("FULL", EventRows.FULL, -3);
        DUE.is("GONE", EventRows.GONE, -4);
        DUE.is("NONE", EventRows.NONE, -5);
    }

    private static String signature(Method method) {
        String text = method.getReturnType() + " " + method.getName()
                + "(" + names(method.getParameterTypes()) + ")";
        Class<?>[] thrown = method.getExceptionTypes();
        return thrown.length == 0 ? text : text + " throws " + names(thrown);
    }

    private static String names(Class<?>[] types) {
        List<String> names = new ArrayList<>();
        for (Class<?> type : types) {
            names.add(type.getSimpleName());
        }
        return String.join(",", names);
    }

    private static void same(String what, List<String> seen, List<String> want) {
        if (!seen.equals(want)) {
            DUE.report(what + " are " + seen + ", due are " + want);
        }
    }
}
