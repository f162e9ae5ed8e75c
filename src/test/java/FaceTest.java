import java.lang.reflect.Constructor;
import java.lang.reflect.Field;
import java.lang.reflect.Member;
import java.lang.reflect.Method;
import java.lang.reflect.Modifier;
import java.util.Set;
import java.util.TreeSet;

/** The public face of the document, all of it and nothing else (LANGUAGE.md, rules 1 and 5). */
public final class FaceTest {
    public static void main(String[] args) {
        Class<?> type = FreshAllotter.class;
        Set<String> face = new TreeSet<>(Set.of(
                "int feed(int,int,int,int,int)", "boolean end(int)", "int text()", "int fault()", "int now(int)",
                "int lot(int,int)", "int order(int,int)", "int reserved(int,int)", "int customer(int,int)"));
        face.addAll(Set.of(
                "boolean suits(int,int)", "int plan(int,int)", "int waste(int,int)", "int least(int,int)",
                "int would(int,int,int,int)", "int slack(int)", "int comes(int,int,int,int)",
                "int asks(int,int,int,int)", "int reserve(int)", "int cancel(int)"));
        face.addAll(Set.of("int hold(int,int)", "int deliver(int)", "int pass(int)", "int undo()"));
        Set<String> found = new TreeSet<>();
        Set<String> publicNames = new TreeSet<>();
        for (Method method : type.getDeclaredMethods()) {
            if (Modifier.isPublic(method.getModifiers())) {
                found.add(signature(method));
                publicNames.add(method.getName());
            } else {
                duePrivate(method);
            }
        }
        for (Method method : type.getDeclaredMethods()) {
            if (!Modifier.isPublic(method.getModifiers())) {
                Checks.due("no private method is named " + method.getName(), publicNames.contains(method.getName()), false);
            }
        }
        if (!found.equals(face)) {
            System.out.println("public methods: " + found + ", due are " + face);
        }
        Checks.due("the public methods are those of the document", found.equals(face), true);
        Constructor<?>[] constructors = type.getDeclaredConstructors();
        Checks.due("constructors", constructors.length, 1);
        Checks.due("the constructor is public", Modifier.isPublic(constructors[0].getModifiers()), true);
        Checks.due("the class is public and final", type.getModifiers() & (Modifier.PUBLIC | Modifier.FINAL),
                Modifier.PUBLIC | Modifier.FINAL);
        for (Field field : type.getDeclaredFields()) {
            if (!field.getName().equals("NONE")) {
                duePrivate(field);
            }
            if (Modifier.isStatic(field.getModifiers())) {
                Checks.due(field.getName() + " is final", Modifier.isFinal(field.getModifiers()), true);
            }
        }
        Checks.due("NONE", FreshAllotter.NONE, -1);
        Checks.finish();
    }

    private static void duePrivate(Member member) {
        Checks.due(member.getName() + " is private", Modifier.isPrivate(member.getModifiers()), true);
    }

    private static String signature(Method method) {
        StringBuilder text = new StringBuilder(method.getReturnType().getName() + " " + method.getName() + "(");
        for (Class<?> type : method.getParameterTypes()) {
            text.append(text.charAt(text.length() - 1) == '(' ? "" : ",").append(type.getName());
        }
        return text.append(")").toString();
    }
}
