import java.lang.reflect.Constructor;
import java.lang.reflect.Field;
import java.lang.reflect.Method;
import java.lang.reflect.Modifier;
import java.util.Arrays;
import java.util.TreeSet;

/** The face is that of the document, and no other member of the class is seen from outside. */
public final class FaceTest {
    private static final String[] FACE = {
        "int begin(int,int)", "int join(int,int,boolean)", "int weigh(int,int)", "int complement()",
        "int remove(int)", "int multiply(int)", "int label(int,int,int)", "int hold(int,int)", "int labelByColors()",
        "int takeHandle(int)", "int append(int)", "int clearBuffer()", "int firstError()", "int read()",
        "int take(int)", "int restore(int)", "int undo()", "int joined(int,int)", "int vertex(int,int)",
        "int handle(int)", "long bound(int)", "int whyNot(int)", "int whyNotMultiply(int)",
        "long bestHandle(int,int)", "int count(int)", "double nearness()", "long digest()"};

    public static void main(String[] args) {
        Class<?> face = CliqueLabels.class;
        Check.due("public and final", face.getModifiers(), Modifier.PUBLIC | Modifier.FINAL);
        TreeSet<String> seen = new TreeSet<>();
        TreeSet<String> names = new TreeSet<>();
        for (Method method : face.getDeclaredMethods()) {
            if (!Modifier.isPrivate(method.getModifiers())) {
                seen.add(told(method));
                names.add(method.getName());
            }
        }
        Check.dueText("methods", seen.toString(), new TreeSet<>(Arrays.asList(FACE)).toString());
        for (Method method : face.getDeclaredMethods()) {
            if (Modifier.isPrivate(method.getModifiers()) && names.contains(method.getName())) {
                Check.fail("a private method bears the name " + method.getName());
            }
        }
        for (Field field : face.getDeclaredFields()) {
            boolean seenOutside = !Modifier.isPrivate(field.getModifiers());
            if (seenOutside != field.getName().equals("NONE")) {
                Check.fail("field " + field);
            }
            if (Modifier.isStatic(field.getModifiers()) && !Modifier.isFinal(field.getModifiers())) {
                Check.fail("static state " + field);
            }
        }
        Constructor<?>[] constructors = face.getDeclaredConstructors();
        Check.due("constructors", constructors.length, 1);
        Check.dueText("the constructor", constructors[0].toString(), "public CliqueLabels()");
        for (Class<?> inner : face.getDeclaredClasses()) {
            int modifiers = inner.getModifiers();
            if (!Modifier.isStatic(modifiers) || Modifier.isPublic(modifiers) || Modifier.isProtected(modifiers)) {
                Check.fail("class " + inner);
            }
        }
        Check.finish("FaceTest");
    }

    private static String told(Method method) {
        StringBuilder all = new StringBuilder();
        all.append(method.getReturnType().getName()).append(' ').append(method.getName()).append('(');
        for (Class<?> type : method.getParameterTypes()) {
            all.append(all.charAt(all.length() - 1) == '(' ? "" : ",").append(type.getName());
        }
        return all.append(')').toString();
    }
}
