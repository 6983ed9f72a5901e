import java.lang.reflect.Constructor;
import java.lang.reflect.Field;
import java.lang.reflect.Method;
import java.lang.reflect.Modifier;
import java.util.ArrayList;
import java.util.Arrays;
import java.util.HashSet;
import java.util.List;
import java.util.Set;

/** The public face: every method of the document with its exceptions, and no other member that is not private. */
public final class FaceTest {
    private static final String B = "IndexOutOfBoundsException";
    private static final String A = "IllegalArgumentException";
    private static final String U = "UnsupportedOperationException";
    private static final String N = "NoSuchElementException";
    private static final String S = "IllegalStateException";
    private static final String[][] FACE = {
        {"int", "addPerson", "int,int", A, S}, {"boolean", "tellConflict", "int,int", B},
        {"boolean", "haveConflict", "int,int", B}, {"int", "sendAway", "int,int", B, A},
        {"int", "addEditor", "int,int", B, A}, {"boolean", "tie", "int,int", A}, {"int", "distance", "int,int", A},
        {"int", "begin", "int,int,int", B, A, S}, {"int", "addAuthor", "int,int", B, U},
        {"int", "dropAuthor", "int,int", B, U}, {"boolean", "sign", "int,int", B, U},
        {"int", "revise", "int,int", B, A, U}, {"char", "withdraw", "int", B, U}, {"int", "assign", "int", B, U, N},
        {"int", "editorOf", "int", B, N}, {"int", "invite", "int,int", B, A, U}, {"char", "invitation", "int,int", B},
        {"int", "answer", "int,int,boolean", B, U}, {"int", "report", "int,int,int,int,boolean", B, A, U},
        {"int", "evened", "int,int", B, N}, {"int", "meet", "int,int,int", B, U, N}, {"int", "openPoints", "int", B},
        {"char", "decide", "int", B, U}, {"int", "appeal", "int", B, U}, {"int", "transfer", "int,int", B, A, U},
        {"int", "showAhead", "int", B, U}, {"int", "priority", "int", B, N}, {"int", "embargo", "int,int", B, A, U},
        {"int", "publish", "int", B, U}, {"int", "cite", "int,int", B, A, U}, {"int", "retract", "int", B, U},
        {"boolean", "hasConcern", "int", B}, {"int", "step", "int,char,int", B, A, U, S},
        {"int", "claim", "int,int", B, U}, {"boolean", "isRight", "int", B}, {"int", "likeness", "int,int", B},
        {"int", "tellMoney", "int,int,int", B, A}, {"int", "move", "int,int", B, A},
        {"char", "setRules", "int,int,int,int,char", A}, {"boolean", "alarm", "int,int", B, U},
        {"int", "equalTo", "int", B, N}, {"int", "complain", "int,int", B, U}, {"int", "seat", "int", B, U, N},
        {"char", "vote", "int,int,boolean", B, U}, {"boolean", "sees", "int,int,int", B},
        {"int", "correct", "int,int", B, A, U}, {"int", "dropCitation", "int,int", B, U},
        {"int", "publicVersion", "int", B, N}, {"int", "index", "int", B},
        {"float", "fieldIndex", "int,int", A, "ArithmeticException"}, {"int", "circle", "int", B},
        {"char", "state", "int", B}, {"int", "letters", "int", B}, {"char", "letter", "int,int", B},
        {"int", "goOn", "int", A}, {"int", "rings", ""}, {"long", "checksum", ""},
        {"float", "acceptedShare", "", "ArithmeticException"}, {"double", "meanScore", "", "ArithmeticException"},
        {"boolean", "isSound", ""},
    };

    public static void main(String[] args) {
        Check.due("methods", publicMethods().size(), FACE.length);
        for (String[] row : FACE) {
            Check.due(row[1], publicMethods().contains(Arrays.asList(row)), true);
        }
        Check.due("final", Modifier.isFinal(Refereehall.class.getModifiers()), true);
        hiddenMembers();
        Check.end();
    }

    private static Set<List<String>> publicMethods() {
        Set<List<String>> all = new HashSet<>();
        for (Method method : Refereehall.class.getDeclaredMethods()) {
            if (!Modifier.isPrivate(method.getModifiers()) && !method.isSynthetic()) {
                List<String> row = new ArrayList<>();
                row.add(method.getReturnType().getName());
                row.add(method.getName());
                row.add(names(method.getParameterTypes()));
                for (Class<?> thrown : method.getExceptionTypes()) {
                    row.add(thrown.getSimpleName());
                }
                all.add(row);
            }
        }
        return all;
    }

    private static String names(Class<?>[] types) {
        List<String> all = new ArrayList<>();
        for (Class<?> type : types) {
            all.add(type.getName());
        }
        return String.join(",", all);
    }

    private static void hiddenMembers() {
        Constructor<?>[] constructors = Refereehall.class.getDeclaredConstructors();
        Check.due("constructors", constructors.length, 1);
        Check.due("a public one", Modifier.isPublic(constructors[0].getModifiers()), true);
        for (Field field : Refereehall.class.getDeclaredFields()) {
            Check.due(field.getName() + " is private", Modifier.isPrivate(field.getModifiers()), true);
        }
        Set<String> names = new HashSet<>();
        for (String[] row : FACE) {
            names.add(row[1]);
        }
        for (Class<?> inside : Refereehall.class.getDeclaredClasses()) {
            Check.due(inside.getName() + " is static", Modifier.isStatic(inside.getModifiers()), true);
            Check.due(inside.getName() + " is hidden",
                    !Modifier.isPublic(inside.getModifiers()) && !Modifier.isProtected(inside.getModifiers()), true);
            for (Method method : inside.getDeclaredMethods()) {
                Check.due(method.getName() + " is a name of the face", names.contains(method.getName()), false);
            }
        }
        for (Method method : Refereehall.class.getDeclaredMethods()) {
            if (Modifier.isPrivate(method.getModifiers())) {
                Check.due(method.getName() + " is a name of the face", names.contains(method.getName()), false);
            }
        }
    }
}
