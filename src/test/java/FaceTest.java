import java.io.IOException;
import java.lang.reflect.Constructor;
import java.lang.reflect.Field;
import java.lang.reflect.Method;
import java.lang.reflect.Modifier;
import java.nio.file.Files;
import java.nio.file.Path;
import java.util.ArrayList;
import java.util.List;
import java.util.TreeSet;
import java.util.regex.Matcher;
import java.util.regex.Pattern;

/** The face of the class: just what the document lists under "The public face", and nothing kept statically. */
public final class FaceTest {
    private static final String[] METHODS = {
        "int addDish(int,int,int,int)", "int addGuest()", "int append(int)", "int best(int,int)", "int bestDay(int)",
        "int clear()", "int clearBuffer()", "int come(int,int)", "int count(int)", "int day(int,int)", "int dish(int,int)",
        "int drop(int,int)", "int exchange(int,int)", "int fill(int)", "int firstError()", "int gain(int,int)",
        "int guest(int,int)", "int joyOn(int,int)", "int leave(int,int,int)", "int planned(int,int)", "int read()",
        "int restore(int)", "int serve(int,int)", "int set(int,int)", "int setting(int)", "int source(int,int)",
        "int take(int)", "int undo()", "int veto(int,int)", "int whyNot(int,int,int)", "long digest()", "double usedShare()",
    };

    private static String told(Method method) {
        StringBuilder text = new StringBuilder();
        text.append(method.getReturnType().getSimpleName()).append(' ').append(method.getName()).append('(');
        for (int k = 0; k < method.getParameterCount(); k++) {
            text.append(k == 0 ? "" : ",").append(method.getParameterTypes()[k].getSimpleName());
        }
        return text.append(')').toString();
    }

    private static void methods() {
        TreeSet<String> due = new TreeSet<>(List.of(METHODS));
        TreeSet<String> found = new TreeSet<>();
        TreeSet<String> names = new TreeSet<>();
        for (Method method : FatigueMenus.class.getDeclaredMethods()) {
            if (!Modifier.isPrivate(method.getModifiers())) {
                found.add(told(method));
                names.add(method.getName());
            }
        }
        Check.tell("the methods", due.toString(), found.toString());
        hiddenNames(FatigueMenus.class, names);
        for (Class<?> inside : FatigueMenus.class.getDeclaredClasses()) {
            hiddenNames(inside, names);
        }
    }

    /** No private method bears the name of a public one. */
    private static void hiddenNames(Class<?> owner, TreeSet<String> names) {
        for (Method method : owner.getDeclaredMethods()) {
            if (owner != FatigueMenus.class || Modifier.isPrivate(method.getModifiers())) {
                Check.equal(owner.getSimpleName() + "." + method.getName() + " bears a public name", 0, names.contains(method.getName()) ? 1 : 0);
            }
        }
    }

    private static String toldWithThrows(Method method) {
        List<String> names = new ArrayList<>();
        for (Class<?> type : method.getExceptionTypes()) {
            names.add(type.getSimpleName());
        }
        return told(method) + " throws " + String.join(", ", names);
    }

    /** The throws clauses are those of the document, in its order. */
    private static void throwsClauses() throws IOException {
        TreeSet<String> due = new TreeSet<>();
        Matcher line = Pattern.compile("^    public (\\w+ \\w+)\\((.*?)\\)(?: throws (.*?))?;$", Pattern.MULTILINE)
                .matcher(Files.readString(Path.of("../shared/DOC.md")));
        while (line.find()) {
            String types = line.group(2).replaceAll(" \\w+(, )?", ",").replaceAll(",$", "");
            due.add(line.group(1) + "(" + types + ") throws " + (line.group(3) == null ? "" : line.group(3)));
        }
        TreeSet<String> found = new TreeSet<>();
        for (Method method : FatigueMenus.class.getDeclaredMethods()) {
            if (Modifier.isPublic(method.getModifiers())) {
                found.add(toldWithThrows(method));
            }
        }
        Check.equal("methods in the document", METHODS.length, due.size());
        Check.tell("the throws clauses", due.toString(), found.toString());
    }

    private static void fields() {
        TreeSet<String> found = new TreeSet<>();
        for (Field field : FatigueMenus.class.getDeclaredFields()) {
            if (!Modifier.isPrivate(field.getModifiers())) {
                found.add(field.getName());
            }
        }
        Check.tell("the constants", "[NONE]", found.toString());
        staticFields(FatigueMenus.class);
        for (Class<?> inside : FatigueMenus.class.getDeclaredClasses()) {
            Check.equal(inside.getSimpleName() + " is static", 1, Modifier.isStatic(inside.getModifiers()) ? 1 : 0);
            staticFields(inside);
        }
    }

    private static void staticFields(Class<?> owner) {
        for (Field field : owner.getDeclaredFields()) {
            int modifiers = field.getModifiers();
            if (Modifier.isStatic(modifiers)) {
                Check.equal(owner.getSimpleName() + "." + field.getName() + " is final", 1, Modifier.isFinal(modifiers) ? 1 : 0);
            }
        }
    }

    private static void constructors() {
        Constructor<?>[] all = FatigueMenus.class.getDeclaredConstructors();
        Check.equal("constructors", 1, all.length);
        Check.equal("its parameters", 0, all[0].getParameterCount());
        Check.equal("it is public", 1, Modifier.isPublic(all[0].getModifiers()) ? 1 : 0);
        Check.equal("the class is final", 1, Modifier.isFinal(FatigueMenus.class.getModifiers()) ? 1 : 0);
    }

    public static void main(String[] args) throws IOException {
        Check.equal("NONE", -1, FatigueMenus.NONE);
        methods();
        throwsClauses();
        fields();
        constructors();
        Check.finish("FaceTest");
    }
}
