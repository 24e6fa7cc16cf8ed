import java.lang.reflect.Constructor;
import java.lang.reflect.Field;
import java.lang.reflect.Method;
import java.lang.reflect.Modifier;
import java.util.TreeSet;

/** The public face: the document's members and no others. */
public final class FaceTest {
    private static final String[] METHODS = {
        "feed(int,int,int,int,int)", "cut(int)", "problem(int)", "place()", "told(int,int,int)",
        "name(int,int,int,int)", "turn(int,int,boolean)", "pin(int,int,int)", "plan(int,int,int)",
        "value(int,int)", "judge(int)", "score(int)", "best(int)", "allowed(int)", "fails(int)",
        "front(int,int,int)", "pair(int,int)", "core(int)", "nearest(int)", "settled(int)", "having(int,int,int)"
    };

    public static void main(String[] args) throws ReflectiveOperationException {
        Checks checks = new Checks();
        TreeSet<String> due = new TreeSet<>(java.util.List.of(METHODS));
        TreeSet<String> names = new TreeSet<>();
        for (String method : METHODS) {
            names.add(method.substring(0, method.indexOf('(')));
        }
        for (Method method : SolverHouse.class.getDeclaredMethods()) {
            if (Modifier.isPrivate(method.getModifiers())) {
                checks.due("private " + method, names.contains(method.getName()) ? 1 : 0, 0);
            } else {
                String form = method.toString().replaceAll(".*SolverHouse\\.", "");
                checks.due("face has " + form, due.remove(form) ? 1 : 0, 1);
                checks.due("int " + form, method.getReturnType() == int.class ? 1 : 0, 1);
                checks.due("public " + form, method.getModifiers(), Modifier.PUBLIC);
            }
        }
        checks.due("methods that lack " + due, due.size(), 0);
        for (Constructor<?> constructor : SolverHouse.class.getDeclaredConstructors()) {
            checks.due("constructor", constructor.getModifiers() * 10 + constructor.getParameterCount(), 10);
        }
        checks.due("public final class", SolverHouse.class.getModifiers(), Modifier.PUBLIC | Modifier.FINAL);
        fields(checks);
        for (Class<?> inside : SolverHouse.class.getDeclaredClasses()) {
            checks.due("static " + inside, Modifier.isStatic(inside.getModifiers()) ? 1 : 0, 1);
            checks.due("not public " + inside, Modifier.isPublic(inside.getModifiers()) ? 1 : 0, 0);
            for (Method method : inside.getDeclaredMethods()) {
                checks.due(inside + " " + method, names.contains(method.getName()) ? 1 : 0, 0);
            }
        }
        checks.end();
    }

    private static void fields(Checks checks) throws ReflectiveOperationException {
        for (Field field : SolverHouse.class.getDeclaredFields()) {
            String name = field.getName();
            boolean constant = name.equals("BAD") || name.equals("NO") || name.equals("FULL");
            checks.due("private field " + name, Modifier.isPrivate(field.getModifiers()) ? 1 : 0, constant ? 0 : 1);
            if (Modifier.isStatic(field.getModifiers())) {
                checks.due("final " + name, Modifier.isFinal(field.getModifiers()) ? 1 : 0, 1);
            }
        }
        checks.due("BAD", SolverHouse.class.getField("BAD").getInt(null), -1);
        checks.due("NO", SolverHouse.class.getField("NO").getInt(null), -2);
        checks.due("FULL", SolverHouse.class.getField("FULL").getInt(null), -3);
    }
}
