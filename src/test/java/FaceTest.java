import java.lang.reflect.Constructor;
import java.lang.reflect.Field;
import java.lang.reflect.Member;
import java.lang.reflect.Method;
import java.lang.reflect.Modifier;
import java.util.TreeSet;

/** The public face of the document, and no member beside it that others could see. */
final class FaceTest {
    private static final String CLASS = "public final class PredicateMachine";
    private static final String CONSTRUCTOR = "public PredicateMachine()";
    private static final String ARGUMENT = " throws java.lang.IllegalArgumentException";
    private static final String BOTH = ARGUMENT + ",java.lang.IllegalStateException";

    public static void main(String[] args) {
        Expect expect = new Expect("FaceTest");
        Class<?> face = PredicateMachine.class;
        int modifiers = face.getModifiers();
        expect.same("the class", Modifier.toString(modifiers) + " class " + face.getName(), CLASS);

        TreeSet<String> seen = new TreeSet<>();
        TreeSet<String> publicNames = new TreeSet<>();
        for (Method method : face.getDeclaredMethods()) {
            if (canBeSeen(method)) {
                seen.add(method.toGenericString().replace("PredicateMachine.", ""));
                publicNames.add(method.getName());
            }
        }
        expect.same("the methods", String.join("\n", seen), String.join("\n", dueMethods()));

        StringBuilder constructors = new StringBuilder();
        for (Constructor<?> constructor : face.getDeclaredConstructors()) {
            constructors.append(constructor.toGenericString());
        }
        expect.same("the constructor", constructors.toString(), CONSTRUCTOR);

        for (Field field : face.getDeclaredFields()) {
            expect.same("field " + field.getName() + " can be seen", canBeSeen(field), false);
        }
        for (Method method : face.getDeclaredMethods()) {
            boolean hides = !canBeSeen(method) && publicNames.contains(method.getName());
            expect.same("private " + method.getName() + " has a public name", hides, false);
        }
        for (Class<?> inside : face.getDeclaredClasses()) {
            expect.same(inside.getName() + " is static", Modifier.isStatic(inside.getModifiers()), true);
        }
        expect.end();
    }

    private static boolean canBeSeen(Member member) {
        return !member.isSynthetic() && !Modifier.isPrivate(member.getModifiers());
    }

    private static TreeSet<String> dueMethods() {
        TreeSet<String> due = new TreeSet<>();
        due.add("public int instruction(int,int,int,int,int,boolean)" + BOTH);
        due.add("public int take()" + ARGUMENT);
        due.add("public int fault(int)" + ARGUMENT);
        due.add("public int run(int)" + BOTH);
        due.add("public void set(int,long)" + ARGUMENT);
        due.add("public long register(int)" + ARGUMENT);
        due.add("public boolean nat(int)" + ARGUMENT);
        due.add("public boolean predicate(int)" + ARGUMENT);
        due.add("public long memory(int)" + ARGUMENT);
        due.add("public void poke(int,long)" + ARGUMENT);
        due.add("public int look(int)" + ARGUMENT);
        due.add("public long backing(int)" + ARGUMENT);
        return due;
    }
}
