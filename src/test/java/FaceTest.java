import java.io.IOException;
import java.lang.reflect.Constructor;
import java.lang.reflect.Field;
import java.lang.reflect.Method;
import java.lang.reflect.Modifier;
import java.nio.file.Files;
import java.nio.file.Path;
import java.util.TreeSet;
import java.util.regex.Pattern;

/** The public face of the document, and what LANGUAGE.md rules out and a plain search can find. */
public final class FaceTest {
    private static final String[] FACE = {
        "module 1", "routine 2", "op 3", "drop 1", "limit 2", "link 0", "fault 1", "place 2",
        "image 2", "count 1", "leads 2", "run 3", "flat 3", "out 2", "told 2",
    };

    public static void main(String[] args) throws IOException {
        constants();
        members();
        words();
        Due.finish();
    }

    private static void constants() {
        Due.due("NONE", BankLinker.NONE, -1);
        Due.due("BAD", BankLinker.BAD, -2);
        Due.due("STATE", BankLinker.STATE, -3);
        Due.due("FULL", BankLinker.FULL, -4);
        Due.due("SPENT", BankLinker.SPENT, -5);
    }

    private static void members() {
        TreeSet<String> wanted = new TreeSet<>();
        TreeSet<String> names = new TreeSet<>();
        for (String one : FACE) {
            wanted.add(one);
            names.add(one.substring(0, one.indexOf(' ')));
        }
        for (Method m : BankLinker.class.getDeclaredMethods()) {
            if (Modifier.isPrivate(m.getModifiers())) {
                Due.due("private " + m.getName() + " bears a public name", names.contains(m.getName()) ? 1 : 0, 0);
            } else {
                Due.due(m + " is of the face", wanted.remove(m.getName() + " " + m.getParameterCount()) ? 1 : 0, 1);
                Due.due(m + " is public and no more", m.getModifiers(), Modifier.PUBLIC);
                Due.due(m + " answers an int", m.getReturnType() == int.class ? 1 : 0, 1);
                for (Class<?> p : m.getParameterTypes()) Due.due(m + " takes ints", p == int.class ? 1 : 0, 1);
            }
        }
        Due.due("missing: " + wanted, wanted.size(), 0);
        int shown = 0;
        for (Field f : BankLinker.class.getDeclaredFields()) {
            if (!Modifier.isPrivate(f.getModifiers())) {
                shown++;
                Due.due(f + " is a public constant", f.getModifiers(), Modifier.PUBLIC | Modifier.STATIC | Modifier.FINAL);
                Due.due(f + " is an int", f.getType() == int.class ? 1 : 0, 1);
            }
            if (Modifier.isStatic(f.getModifiers())) Due.due(f + " is final", Modifier.isFinal(f.getModifiers()) ? 1 : 0, 1);
        }
        Due.due("constants that are not private", shown, 5);
        Constructor<?>[] constructors = BankLinker.class.getDeclaredConstructors();
        Due.due("constructors", constructors.length, 1);
        Due.due("its parameters", constructors[0].getParameterCount(), 0);
        Due.due("the constructor is public", constructors[0].getModifiers(), Modifier.PUBLIC);
        Due.due("the class is public and final", BankLinker.class.getModifiers(), Modifier.PUBLIC | Modifier.FINAL);
        for (Class<?> c : BankLinker.class.getDeclaredClasses()) {
            Due.due(c + " is static", Modifier.isStatic(c.getModifiers()) ? 1 : 0, 1);
            Due.due(c + " is not shown", c.getModifiers() & (Modifier.PUBLIC | Modifier.PROTECTED), 0);
            Due.due(c + " has at most twenty fields", fieldsOf(c) <= 20 ? 1 : 0, 1);
        }
        Due.due("at most twelve classes", BankLinker.class.getDeclaredClasses().length <= 11 ? 1 : 0, 1);
    }

    private static int fieldsOf(Class<?> c) {
        int sum = 0;
        for (Field f : c.getDeclaredFields()) if (!Modifier.isStatic(f.getModifiers())) sum++;
        return sum;
    }

    private static void words() throws IOException {
        String text = Files.readString(Path.of("src/main/java/BankLinker.java"));
        text = text.replaceAll("(?s)/\\*.*?\\*/", " ").replaceAll("//[^\n]*", " ");
        String[] ruledOut = {
            "\\bthrow\\b", "\\btry\\b", "\\bcatch\\b", "\\bsynchronized\\b", "\\bassert\\b", "\\bthrows\\b",
            "->", "::", "Exact\\s*\\(", "\\bpackage\\b", "\\bSystem\\.(?!arraycopy)", "\\bString\\.format\\b",
            "\\bimport\\s+(?!java\\.util\\.(Arrays|ArrayList|List|Iterator);)", "\\bhashCode\\b", "\\bstatic\\s*\\{",
        };
        for (String word : ruledOut) {
            Due.due("uses " + word, Pattern.compile(word).matcher(text).find() ? 1 : 0, 0);
        }
    }
}
