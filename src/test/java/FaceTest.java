import java.lang.reflect.Constructor;
import java.lang.reflect.Field;
import java.lang.reflect.Method;
import java.lang.reflect.Modifier;
import java.util.ArrayList;
import java.util.Arrays;
import java.util.Collections;
import java.util.List;
import java.util.Set;
import java.util.TreeSet;

/** The face of the document: its members, their types and throws clauses, and nothing else. */
public final class FaceTest {
    private static final String I = "IndexOutOfBoundsException";
    private static final String A = "IllegalArgumentException";
    private static final String S = "IllegalStateException";

    private static final String[] FACE = {
        "int rate(int,int) " + I + " " + A,
        "int pays(int,int) " + I + " " + A,
        "int set(int,int) " + I + " " + A,
        "int assign(int,int) " + I + " " + S,
        "int deliver(int) " + I + " " + S,
        "int revise(int,int,int) " + I + " " + A + " " + S,
        "int propose(int,int,int) " + I + " " + A + " " + S,
        "int rule(int,int) " + I + " " + A + " " + S,
        "int append(int) " + A + " " + S,
        "int clearBuffer()",
        "int firstError()",
        "int add() " + A + " " + S,
        "int change(int) " + I + " " + A,
        "int undo() " + S,
        "int segment(int,int) " + I + " " + A,
        "int word(int,int) " + I + " " + A,
        "int remembered(int,int) " + I + " " + A,
        "int translator(int,int) " + I + " " + A,
        "int term(int,int) " + I + " " + A,
        "int band(int,int) " + I + " " + A,
        "int count(int) " + A,
        "int setting(int) " + I,
        "int near(int,int,int) " + I + " " + A,
        "int common(int,int,int) " + I + " " + A,
        "int ifPaid(int,int) " + I,
        "int orderMatters(int,int) " + I + " " + A + " " + S,
        "int saved()",
        "double wordCost()",
        "long digest()",
    };

    private FaceTest() {
    }

    public static void main(String[] args) {
        members();
        constants();
        Check.end("FaceTest");
    }

    private static String told(Method method) {
        List<String> types = new ArrayList<>();
        for (Class<?> type : method.getParameterTypes()) {
            types.add(type.getSimpleName());
        }
        StringBuilder text = new StringBuilder(method.getReturnType().getSimpleName());
        text.append(' ').append(method.getName()).append('(').append(String.join(",", types)).append(')');
        for (Class<?> thrown : method.getExceptionTypes()) {
            text.append(' ').append(thrown.getSimpleName());
        }
        return text.toString();
    }

    private static void members() {
        Class<?> desk = MemoryDesk.class;
        Check.equal("the class", Modifier.toString(desk.getModifiers()), "public final");
        List<String> face = new ArrayList<>();
        Set<String> publicNames = new TreeSet<>();
        Set<String> privateNames = new TreeSet<>();
        for (Method method : desk.getDeclaredMethods()) {
            if (Modifier.isPrivate(method.getModifiers())) {
                privateNames.add(method.getName());
            } else {
                Check.equal(method.getName(), Modifier.toString(method.getModifiers()), "public");
                face.add(told(method));
                publicNames.add(method.getName());
            }
        }
        for (Class<?> inside : desk.getDeclaredClasses()) {
            Check.equal(inside.getName(), Modifier.isStatic(inside.getModifiers()) ? 1 : 0, 1);
            for (Method method : inside.getDeclaredMethods()) {
                privateNames.add(method.getName());
            }
        }
        List<String> due = new ArrayList<>(Arrays.asList(FACE));
        Collections.sort(face);
        Collections.sort(due);
        Check.equal("the methods", face.toString(), due.toString());
        privateNames.retainAll(publicNames);
        Check.equal("names both private and public", privateNames.toString(), "[]");
        Constructor<?>[] constructors = desk.getDeclaredConstructors();
        Check.equal("constructors", constructors.length, 1);
        Check.equal("the constructor", constructors[0].toString(), "public MemoryDesk()");
    }

    private static void constants() {
        for (Field field : MemoryDesk.class.getDeclaredFields()) {
            boolean named = field.getName().equals("NONE");
            Check.equal(field.getName(), Modifier.isPublic(field.getModifiers()) == named ? 1 : 0, 1);
            Check.equal(field.getName(), named || Modifier.isPrivate(field.getModifiers()) ? 1 : 0, 1);
            Check.equal(field.getName(), Modifier.isFinal(field.getModifiers()) ? 1 : 0, 1);
        }
        Check.equal("NONE", MemoryDesk.NONE, -1);
    }
}
