import java.io.IOException;
import java.lang.reflect.Constructor;
import java.lang.reflect.Field;
import java.lang.reflect.Method;
import java.lang.reflect.Modifier;
import java.nio.file.Files;
import java.nio.file.Path;
import java.util.Arrays;
import java.util.List;
import java.util.Set;
import java.util.TreeSet;
import java.util.regex.Pattern;

/** The face of the class, and those rules of LANGUAGE.md that can be looked up. */
public final class LanguageRules {
    private static final List<String> FACE = List.of(
            "about(int) IllegalArgumentException",
            "accuse(int,boolean) IndexOutOfBoundsException",
            "accusePan(int) IllegalArgumentException",
            "append(int) IllegalArgumentException IllegalStateException",
            "arms(int,int) IllegalArgumentException",
            "best(int,int) IllegalArgumentException",
            "bestArms(int,int) IllegalArgumentException",
            "clearText()",
            "coin(int) IndexOutOfBoundsException",
            "errorPosition()",
            "forget() IllegalStateException",
            "hide(int,int) IndexOutOfBoundsException IllegalArgumentException",
            "isLeft(int) IndexOutOfBoundsException",
            "leaves(int,int,int) IndexOutOfBoundsException IllegalArgumentException",
            "load() IllegalStateException",
            "needs()",
            "pans()",
            "restore(int) IndexOutOfBoundsException IllegalStateException",
            "runScript(int,long) IllegalArgumentException",
            "save(int) IndexOutOfBoundsException",
            "sharpest()",
            "simulate(long,int) IllegalArgumentException",
            "undo() IllegalStateException",
            "weigh(int,int) IllegalArgumentException IllegalStateException",
            "weighing(int,int) IndexOutOfBoundsException IllegalArgumentException");

    public static void main(String[] args) throws IOException {
        face();
        for (Class<?> c : FalsePan.class.getDeclaredClasses()) {
            inner(c);
        }
        words();
        Check.finish();
    }

    private static void face() {
        Check.due("the class", Modifier.toString(FalsePan.class.getModifiers()), "public final");
        Set<String> seen = new TreeSet<>();
        for (Method m : FalsePan.class.getDeclaredMethods()) {
            if (Modifier.isPrivate(m.getModifiers())) {
                Check.that("no private " + m.getName(), !isPublicName(m.getName()));
                continue;
            }
            Check.due(m.getName(), Modifier.toString(m.getModifiers()), "public");
            Check.that(m.getName() + " returns an int", m.getReturnType() == int.class);
            StringBuilder told = new StringBuilder(m.getName());
            told.append(Arrays.toString(m.getParameterTypes()).replace("[", "(").replace("]", ")").replace(" ", ""));
            for (Class<?> e : m.getExceptionTypes()) {
                told.append(' ').append(e.getSimpleName());
            }
            seen.add(told.toString());
        }
        Check.due("the methods", seen.toString(), new TreeSet<>(FACE).toString());
        for (Constructor<?> c : FalsePan.class.getDeclaredConstructors()) {
            Check.due("the constructor", c.toString(), "public FalsePan()");
        }
        for (Field f : FalsePan.class.getDeclaredFields()) {
            String modifiers = Modifier.toString(f.getModifiers());
            boolean none = f.getName().equals("NONE") && modifiers.equals("public static final");
            Check.that("the field " + f.getName(), none || Modifier.isPrivate(f.getModifiers()));
            Check.that("the field " + f.getName() + ": static ones are final", finalIfStatic(f));
        }
    }

    private static boolean isPublicName(String name) {
        return FACE.stream().anyMatch(told -> told.startsWith(name + "("));
    }

    private static boolean finalIfStatic(Field f) {
        return !Modifier.isStatic(f.getModifiers()) || Modifier.isFinal(f.getModifiers());
    }

    private static void inner(Class<?> c) {
        Check.that(c + " is neither public nor protected",
                (c.getModifiers() & (Modifier.PUBLIC | Modifier.PROTECTED)) == 0);
        int fields = 0;
        for (Field f : c.getDeclaredFields()) {
            Check.that(c + ": static fields are final", finalIfStatic(f));
            fields += Modifier.isStatic(f.getModifiers()) ? 0 : 1;
        }
        Check.that(c + ": some twenty fields", fields <= 24);
        Set<String> names = c.isRecord() ? Set.of() : Set.of("equals", "hashCode", "toString");
        for (Method m : c.getDeclaredMethods()) {
            Check.that(c + ": " + m.getName(), !names.contains(m.getName()));
            Check.that(c + ": no private " + m.getName(),
                    !Modifier.isPrivate(m.getModifiers()) || !isPublicName(m.getName()));
            Check.that(c + ": at most seven parameters", m.getParameterCount() <= 7);
        }
    }

    private static void words() throws IOException {
        String source = Files.readString(Path.of("src/main/java/FalsePan.java"));
        String code = source.replaceAll("(?s)/\\*.*?\\*/", " ").replaceAll("//.*", " ").replaceAll("\"[^\"]*\"", "\"\"");
        // An arrow is fine in a switch alone; a call of System is that of arraycopy.
        String[] never = {"\\bpackage\\b", "::", "\\bfinally\\b", "\\bsynchronized\\b", "\\bassert\\b",
            "\\bnative\\b", "\\bThread\\b", "\\bObject\\b", "\\bprotected\\b", "\\bvolatile\\b", "\"\" *\\+",
            "\\+ *\"\"", "\\w+Exact *\\(", "\\b(nanoTime|currentTimeMillis|random|Random)\\b", "\\bSystem *\\. *(?!arraycopy\\b)\\w+",
            "\\bimport +(?!java\\.util\\.(ArrayList|List|Arrays|Iterator|NoSuchElementException) *;)",
            "\\btry *\\(", "\\bcatch *\\( *(Throwable|Exception|Error|NullPointerException|ClassCastException"
            + "|ArrayIndexOutOfBoundsException|NegativeArraySizeException|ArrayStoreException)\\b"};
        for (String word : never) {
            Check.that("the program without " + word, !Pattern.compile(word).matcher(code).find());
        }
        for (String line : code.split("\n")) {
            Check.that("an arrow behind a case alone: " + line,
                    !line.contains("->") || line.matches(" *(case\\b|default\\b).*"));
        }
        for (int i = 0; i < source.length(); i++) {
            if (source.charAt(i) > 126) {
                Check.that("the program has a sign above 126 at " + i, false);
            }
        }
    }
}
