import java.io.IOException;
import java.lang.reflect.Constructor;
import java.lang.reflect.Field;
import java.lang.reflect.Method;
import java.lang.reflect.Modifier;
import java.nio.file.Files;
import java.nio.file.Path;
import java.util.Set;
import java.util.TreeSet;

/** The face that the document gives the class, and the rules of ../shared/LANGUAGE.md that can be seen at a glance. */
public final class FaceTest {
    private static final Check check = new Check();
    private static final Path SOURCE = Path.of("src/main/java/SightRidge.java");
    private static final Set<String> METHODS = Set.of(
        "int reset(int,int)", "int setGround(int,int)", "int slope(int,int)", "int mast(int,int)", "int reverse()",
        "int setRange(int)", "int setBulge(int)", "int undo()", "int type(int)", "int clearText()", "int fault()",
        "int load()", "int station(int,int)", "int sees(int,int)", "int obstacle(int,int,int)",
        "int neededMast(int,int)", "int growth(int,int,int)", "int shadow(int,int,int)", "int farthest()",
        "int chain(int,int)", "int newMasts(int,int,int)", "int vital(int,int)", "int finding(int)", "int groups()",
        "int watch(int)", "int watched(int)", "int count(int)", "long digest()");
    private static final Set<String> CONSTANTS = Set.of("BAD", "STATE", "FULL", "NONE");

    public static void main(String[] args) throws IOException {
        methods();
        fieldsAndConstructor();
        classesInside();
        words();
        check.finish();
    }

    private static boolean hidden(int modifiers) {
        return Modifier.isPrivate(modifiers);
    }

    private static String signature(Method method) {
        StringBuilder text = new StringBuilder();
        for (Class<?> parameter : method.getParameterTypes()) {
            text.append(text.length() == 0 ? "" : ",").append(parameter.getSimpleName());
        }
        return method.getReturnType().getSimpleName() + " " + method.getName() + "(" + text + ")";
    }

    private static void methods() {
        check.promise("rule 1");
        Set<String> shown = new TreeSet<>();
        Set<String> names = new TreeSet<>();
        for (Method method : SightRidge.class.getDeclaredMethods()) {
            if (!hidden(method.getModifiers())) {
                shown.add(signature(method));
                names.add(method.getName());
                int plain = method.getModifiers() & ~Modifier.FINAL;
                check.due("modifiers of " + method.getName(), plain, Modifier.PUBLIC);
            }
        }
        check.due("the methods shown, " + shown + ", are those of the document", shown.equals(METHODS) ? 1 : 0, 1);
        for (Method method : SightRidge.class.getDeclaredMethods()) {
            boolean doubled = hidden(method.getModifiers()) && names.contains(method.getName());
            check.due("a private " + method.getName(), doubled ? 1 : 0, 0);
        }
    }

    private static void fieldsAndConstructor() {
        check.promise("rule 1");
        int wanted = Modifier.PUBLIC | Modifier.STATIC | Modifier.FINAL;
        Set<String> shown = new TreeSet<>();
        for (Field field : SightRidge.class.getDeclaredFields()) {
            if (!hidden(field.getModifiers())) {
                shown.add(field.getName());
                check.due("modifiers of " + field.getName(), field.getModifiers(), wanted);
                check.due(field.getName() + " is an int", field.getType() == int.class ? 1 : 0, 1);
            }
        }
        check.due("the constants shown, " + shown, shown.equals(CONSTANTS) ? 1 : 0, 1);
        Constructor<?>[] constructors = SightRidge.class.getDeclaredConstructors();
        check.due("constructors", constructors.length, 1);
        check.due("modifiers of the constructor", constructors[0].getModifiers(), Modifier.PUBLIC);
        check.due("its parameters", constructors[0].getParameterCount(), 0);
        check.due("modifiers of the class", SightRidge.class.getModifiers(), Modifier.PUBLIC | Modifier.FINAL);
    }

    private static void classesInside() {
        Class<?>[] inside = SightRidge.class.getDeclaredClasses();
        check.promise("rule 2");
        for (Class<?> one : inside) {
            int modifiers = one.getModifiers();
            check.due(one.getName() + " is static", Modifier.isStatic(modifiers) ? 1 : 0, 1);
            boolean shown = Modifier.isPublic(modifiers) || Modifier.isProtected(modifiers);
            check.due(one.getName() + " is shown", shown ? 1 : 0, 0);
            check.promise("rule 5");
            for (Field field : one.getDeclaredFields()) {
                boolean loose = Modifier.isStatic(field.getModifiers()) && !Modifier.isFinal(field.getModifiers());
                check.due(one.getName() + "." + field.getName() + " can change", loose ? 1 : 0, 0);
            }
        }
        check.promise("rule 11");
        check.due("at most twelve classes", inside.length + 1 <= 12 ? 1 : 0, 1);
    }

    private static void words() throws IOException {
        check.promise("rules 2, 4 and 6");
        String code = Files.readString(SOURCE).replaceAll("(?s)/\\*.*?\\*/", " ").replaceAll("//[^\n]*", " ");
        String[] refused = {"import", "package", "throw", "throws", "try", "catch", "finally", "synchronized", "assert",
            "System", "Thread", "Object", "hashCode", "equals", "toString", "Random"};
        for (String word : refused) {
            boolean there = code.matches("(?s).*\\b" + word + "\\b.*");
            check.due("the word " + word + " in the code", there ? 1 : 0, 0);
        }
        check.due("a lambda or a method reference", code.contains("->") || code.contains("::") ? 1 : 0, 0);
    }
}
