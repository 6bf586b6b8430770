import java.lang.reflect.Constructor;
import java.lang.reflect.Field;
import java.lang.reflect.Method;
import java.lang.reflect.Modifier;
import java.util.Set;
import java.util.TreeSet;

/** The class has the document's face and no other member that can be seen; no other method inside bears a name of the face. */
public final class FaceTest {
    private static final Set<String> FACE = Set.of(
        "int feed(long,long,long)", "int commune()", "int weeks()", "int person(int,int)", "int dish(int,int)",
        "int would(int,int,boolean,int)", "int eat(int,int,boolean)", "int abroad(int,int)", "int fast()", "boolean undo()",
        "int judged(int)", "int plan(int,int)", "int tables(int,int)", "int last(int)", "boolean tell(int,int)", "int sets(int,int)",
        "int stop(int)", "int power(int,int)", "int couples(int)", "int rests(int,int,int)", "int years(int,int,int)",
        "boolean mark(int,boolean)", "int count(int)");

    private static int wrong = 0;

    public static void main(String[] args) {
        Class<?> face = TableTurns.class;
        check("public final", Modifier.isPublic(face.getModifiers()) && Modifier.isFinal(face.getModifiers()));
        Set<String> seen = new TreeSet<>();
        Set<String> names = new TreeSet<>();
        for (Method m : face.getDeclaredMethods()) {
            if (!Modifier.isPrivate(m.getModifiers())) {
                seen.add(told(m));
                names.add(m.getName());
                check(m + " is public", Modifier.isPublic(m.getModifiers()) && !Modifier.isStatic(m.getModifiers()));
            }
        }
        check("the methods " + seen, seen.equals(FACE));
        for (Constructor<?> c : face.getDeclaredConstructors()) {
            check("constructor " + c, Modifier.isPublic(c.getModifiers()) && c.getParameterCount() == 0);
        }
        for (Field f : face.getDeclaredFields()) {
            boolean isNone = f.getName().equals("NONE") && Modifier.isPublic(f.getModifiers()) && f.getType() == int.class;
            check("field " + f, Modifier.isPrivate(f.getModifiers()) || isNone);
            check("static field " + f, !Modifier.isStatic(f.getModifiers()) || Modifier.isFinal(f.getModifiers()));
        }
        checkOthers(face, names);
        for (Class<?> inside : face.getDeclaredClasses()) {
            check("class " + inside, Modifier.isStatic(inside.getModifiers()) && !Modifier.isPublic(inside.getModifiers()));
            checkOthers(inside, names);
        }
        System.out.println(wrong == 0 ? "the face is as told" : wrong + " members are not as told");
        if (wrong != 0) {
            System.exit(1);
        }
    }

    private static String told(Method m) {
        StringBuilder out = new StringBuilder(m.getReturnType().getName() + " " + m.getName() + "(");
        for (Class<?> p : m.getParameterTypes()) {
            out.append(out.charAt(out.length() - 1) == '(' ? "" : ",").append(p.getName());
        }
        return out.append(")").toString();
    }

    private static void checkOthers(Class<?> where, Set<String> names) {
        for (Method m : where.getDeclaredMethods()) {
            boolean isFace = where == TableTurns.class && Modifier.isPublic(m.getModifiers());
            check("the name of " + m, isFace || !names.contains(m.getName()));
            check("seven parameters at most: " + m, m.getParameterCount() <= 7);
        }
    }

    private static void check(String what, boolean holds) {
        if (!holds) {
            wrong++;
            System.out.println("not as told: " + what);
        }
    }
}
