import java.lang.reflect.Constructor;
import java.lang.reflect.Field;
import java.lang.reflect.Method;
import java.lang.reflect.Modifier;
import java.util.Arrays;
import java.util.TreeSet;

/** The face is that of the document, with its throws clauses in their order; no other member is seen from outside. */
public final class FaceTest {
    private static final String[] FACE = {
        "int begin(int,int) ARGUMENT", "int join(int,int,boolean) INDEX ARGUMENT",
        "int weigh(int,int) INDEX ARGUMENT", "int complement()", "int remove(int) INDEX STATE",
        "int multiply(int) INDEX STATE", "int label(int,int,int) INDEX ARGUMENT", "int hold(int,int) INDEX ARGUMENT",
        "int labelByColors() STATE", "int takeHandle(int) ARGUMENT", "int append(int) ARGUMENT STATE",
        "int clearBuffer()", "int firstError()", "int read() ARGUMENT", "int take(int) INDEX",
        "int restore(int) INDEX STATE", "int undo() STATE", "int joined(int,int) INDEX",
        "int vertex(int,int) INDEX ARGUMENT", "int handle(int) INDEX", "long bound(int) ARGUMENT",
        "int whyNot(int) ARGUMENT", "int whyNotMultiply(int) INDEX STATE", "long bestHandle(int,int) ARGUMENT",
        "int count(int) ARGUMENT", "double nearness()", "long digest()"};

    public static void main(String[] args) {
        Class<?> face = CliqueLabels.class;
        Check.due("public and final", face.getModifiers(), Modifier.PUBLIC | Modifier.FINAL);
        TreeSet<String> seen = new TreeSet<>();
        TreeSet<String> names = new TreeSet<>();
        for (Method method : face.getDeclaredMethods()) {
            if (!Modifier.isPrivate(method.getModifiers())) {
                seen.add(told(method));
                names.add(method.getName());
            }
        }
        Check.dueText("methods", seen.toString(), new TreeSet<>(Arrays.asList(FACE)).toString());
        for (Method method : face.getDeclaredMethods()) {
            if (Modifier.isPrivate(method.getModifiers()) && names.contains(method.getName())) {
                Check.fail("a private method bears the name " + method.getName());
            }
        }
        for (Field field : face.getDeclaredFields()) {
            boolean seenOutside = !Modifier.isPrivate(field.getModifiers());
            if (seenOutside != field.getName().equals("NONE")) {
                Check.fail("field " + field);
            }
            if (Modifier.isStatic(field.getModifiers()) && !Modifier.isFinal(field.getModifiers())) {
                Check.fail("static state " + field);
            }
        }
        Constructor<?>[] constructors = face.getDeclaredConstructors();
        Check.due("constructors", constructors.length, 1);
        Check.dueText("the constructor", constructors[0].toString(), "public CliqueLabels()");
        for (Class<?> inner : face.getDeclaredClasses()) {
            int modifiers = inner.getModifiers();
            if (!Modifier.isStatic(modifiers) || Modifier.isPublic(modifiers) || Modifier.isProtected(modifiers)) {
                Check.fail("class " + inner);
            }
        }
        Check.finish("FaceTest");
    }

    private static String told(Method method) {
        StringBuilder all = new StringBuilder();
        all.append(method.getReturnType().getName()).append(' ').append(method.getName()).append('(');
        for (Class<?> type : method.getParameterTypes()) {
            all.append(all.charAt(all.length() - 1) == '(' ? "" : ",").append(type.getName());
        }
        all.append(')');
        for (Class<?> kind : method.getExceptionTypes()) {
            all.append(kind == Check.INDEX ? " INDEX" : kind == Check.ARGUMENT ? " ARGUMENT"
                : kind == Check.STATE ? " STATE" : " " + kind);
        }
        return all.toString();
    }
}
