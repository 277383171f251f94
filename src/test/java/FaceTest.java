import java.lang.reflect.Constructor;
import java.lang.reflect.Field;
import java.lang.reflect.Method;
import java.lang.reflect.Modifier;
import java.util.Set;
import java.util.TreeSet;

/** The public face: the class, its constants, constructor and methods, and nothing else that can be seen. */
public final class FaceTest {
    private static final String[] METHODS = {
        "public boolean QueryFleet.column(int)",
        "public boolean QueryFleet.from(int,int,int,int,int)",
        "public boolean QueryFleet.group(int)",
        "public boolean QueryFleet.missing(int,int)",
        "public boolean QueryFleet.number(int)",
        "public boolean QueryFleet.operate(int)",
        "public boolean QueryFleet.order(int,boolean,int)",
        "public boolean QueryFleet.output(int)",
        "public boolean QueryFleet.where()",
        "public int QueryFleet.crash(int)",
        "public int QueryFleet.ended(int)",
        "public int QueryFleet.message(int,int)",
        "public int QueryFleet.pass(int,int)",
        "public int QueryFleet.row(int,int,int,int)",
        "public int QueryFleet.start(int,int)",
        "public int QueryFleet.task(int,int)",
        "public int QueryFleet.tick()",
        "public int QueryFleet.work(int)",
        "public long QueryFleet.cell(int,int)",
    };

    private FaceTest() {
    }

    public static void main(String[] args) {
        Check.due("NONE", QueryFleet.NONE, -1);
        Check.due("FULL", QueryFleet.FULL, -2);
        Check.due("public and final", QueryFleet.class.getModifiers(), Modifier.PUBLIC | Modifier.FINAL);
        methods();
        constructorsAndFields();
        classesInside();
        sizes();
        Check.end();
    }

    private static void methods() {
        Set<String> visible = new TreeSet<>();
        Set<String> names = new TreeSet<>();
        for (Method m : QueryFleet.class.getDeclaredMethods()) {
            if (!Modifier.isPrivate(m.getModifiers())) {
                visible.add(m.toString());
                names.add(m.getName());
            }
        }
        Check.due("methods are " + visible + ", the same", visible.equals(new TreeSet<>(Set.of(METHODS))), true);
        for (Method m : QueryFleet.class.getDeclaredMethods()) {
            boolean shadows = Modifier.isPrivate(m.getModifiers()) && names.contains(m.getName());
            Check.due("private method with a public name: " + m, shadows, false);
        }
    }

    private static void constructorsAndFields() {
        int constructors = 0;
        for (Constructor<?> c : QueryFleet.class.getDeclaredConstructors()) {
            constructors++;
            Check.due("constructor " + c, c.toString().equals("public QueryFleet()"), true);
        }
        Check.due("constructors", constructors, 1);
        for (Field f : QueryFleet.class.getDeclaredFields()) {
            boolean constant = f.getName().equals("NONE") || f.getName().equals("FULL");
            int want = constant ? Modifier.PUBLIC | Modifier.STATIC | Modifier.FINAL : Modifier.PRIVATE;
            int seen = f.getModifiers() & (constant ? ~0 : Modifier.PRIVATE | Modifier.PUBLIC | Modifier.PROTECTED);
            Check.due("modifiers of " + f, seen, want);
            Check.due("static and not final: " + f, isChangeableStatic(f), false);
        }
    }

    private static boolean isChangeableStatic(Field f) {
        return Modifier.isStatic(f.getModifiers()) && !Modifier.isFinal(f.getModifiers());
    }

    private static void classesInside() {
        int classes = 1;
        for (Class<?> inside : QueryFleet.class.getDeclaredClasses()) {
            classes++;
            int seen = inside.getModifiers();
            Check.due("static: " + inside, Modifier.isStatic(seen), true);
            Check.due("hidden: " + inside, !Modifier.isPublic(seen) && !Modifier.isProtected(seen), true);
            for (Field f : inside.getDeclaredFields()) {
                Check.due("static and not final: " + f, isChangeableStatic(f), false);
            }
        }
        Check.due("some twelve classes", classes <= 12, true);
    }

    // Rule 11 of LANGUAGE.md, as far as it can be seen from outside.
    private static void sizes() {
        sizesOf(QueryFleet.class);
        for (Class<?> inside : QueryFleet.class.getDeclaredClasses()) {
            sizesOf(inside);
        }
    }

    private static void sizesOf(Class<?> some) {
        for (Method m : some.getDeclaredMethods()) {
            Check.due("seven parameters at most: " + m, m.getParameterCount() <= 7, true);
        }
        int fields = 0;
        for (Field f : some.getDeclaredFields()) {
            fields += Modifier.isStatic(f.getModifiers()) ? 0 : 1;
        }
        Check.due("some twenty fields: " + some, fields <= 20, true);
    }
}
