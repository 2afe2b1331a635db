import java.lang.reflect.Constructor;
import java.lang.reflect.Field;
import java.lang.reflect.Method;
import java.lang.reflect.Modifier;
import java.util.Set;
import java.util.TreeSet;

/** The public face: just the members that the document names, and no other that can be seen outside. */
public final class FaceTest {
    private static final Set<String> METHODS = Set.of("int set(int,int,long)", "long get(int,int)", "int refused()",
            "int cut(int)", "int string(int)", "int move(int,int,int)", "int step(int,int,int)", "int forget()",
            "int dance(int)", "int danced(int)", "long bar(int)", "int order(int)");

    public static void main(String[] args) {
        Check check = new Check();
        check.due("the class is public and final", PuppetBar.class.getModifiers(), Modifier.PUBLIC | Modifier.FINAL);
        check.due("NONE", PuppetBar.NONE, -1);
        Set<String> seen = new TreeSet<>();
        Set<String> hiddenNames = new TreeSet<>();
        for (Method method : PuppetBar.class.getDeclaredMethods()) {
            if (Modifier.isPrivate(method.getModifiers())) {
                hiddenNames.add(method.getName());
            } else {
                seen.add(written(method));
                check.due(method + " is public alone", method.getModifiers(), Modifier.PUBLIC);
            }
        }
        check.due("methods are " + seen, seen.equals(METHODS) ? 1 : 0, 1);
        for (String written : METHODS) {
            String name = written.substring(written.indexOf(' ') + 1, written.indexOf('('));
            check.due("private " + name, hiddenNames.contains(name) ? 1 : 0, 0);
        }
        for (Field field : PuppetBar.class.getDeclaredFields()) {
            boolean isHidden = Modifier.isPrivate(field.getModifiers());
            check.due("field " + field, isHidden || field.getName().equals("NONE") ? 1 : 0, 1);
        }
        Constructor<?>[] constructors = PuppetBar.class.getDeclaredConstructors();
        check.due("constructors", constructors.length, 1);
        check.due("the constructor's parameters", constructors[0].getParameterCount(), 0);
        check.due("the constructor is public", constructors[0].getModifiers(), Modifier.PUBLIC);
        check.end();
    }

    private static String written(Method method) {
        StringBuilder text = new StringBuilder();
        text.append(method.getReturnType().getName()).append(' ').append(method.getName()).append('(');
        Class<?>[] parameters = method.getParameterTypes();
        for (int i = 0; i < parameters.length; i++) {
            text.append(i == 0 ? "" : ",").append(parameters[i].getName());
        }
        return text.append(')').toString();
    }
}
