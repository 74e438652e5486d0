import java.lang.reflect.Constructor;
import java.lang.reflect.Field;
import java.lang.reflect.Method;
import java.lang.reflect.Modifier;
import java.nio.file.Files;
import java.nio.file.Path;
import java.util.ArrayList;
import java.util.List;
import java.util.Set;
import java.util.TreeSet;
import java.util.regex.Matcher;
import java.util.regex.Pattern;

/** The public face is the document's, and what LANGUAGE.md rules out is not there. */
public final class FaceTest {
    private static final String[] FACE = {
        "public boolean HarbourBoard.gale(int,float) throws IllegalArgumentException",
        "public boolean HarbourBoard.holds(int,int,int,int) throws IllegalArgumentException",
        "public boolean HarbourBoard.lift(int,int) throws IllegalArgumentException",
        "public boolean HarbourBoard.mark(int,int,double) throws IllegalArgumentException",
        "public double HarbourBoard.highest(int) throws IllegalArgumentException, NoSuchElementException",
        "public float HarbourBoard.calmest(int) throws IllegalArgumentException, NoSuchElementException",
        "public int HarbourBoard.clear(int) throws IllegalArgumentException",
        "public int HarbourBoard.count(int,int,int,boolean) throws IllegalArgumentException",
        "public int HarbourBoard.level(int,double) throws IllegalArgumentException, IllegalStateException",
        "public int HarbourBoard.move(boolean) throws IllegalStateException, UnsupportedOperationException, ArithmeticException",
        "public int HarbourBoard.order(int) throws IllegalArgumentException",
        "public int HarbourBoard.out(int,int) throws IllegalArgumentException, IllegalStateException",
        "public int HarbourBoard.pick(int,int,int,int) throws IllegalArgumentException",
        "public int HarbourBoard.probe(double) throws IllegalArgumentException",
        "public int HarbourBoard.probeOut(int) throws IllegalArgumentException",
        "public int HarbourBoard.probeWind(float) throws IllegalArgumentException",
        "public int HarbourBoard.run(int,int,int,boolean) throws IllegalArgumentException",
        "public int HarbourBoard.same(int,int) throws IllegalArgumentException",
        "public int HarbourBoard.size(int,int) throws IllegalArgumentException",
        "public int HarbourBoard.stand(int) throws IllegalArgumentException",
        "public int HarbourBoard.wind(int,float) throws IllegalArgumentException, IllegalStateException",
    };

    /** Whole words and signs that no rule of LANGUAGE.md leaves room for. */
    private static final String[] RULED_OUT = {
        "\\bfinally\\b", "::", "\\bsynchronized\\b", "\\bvolatile\\b", "\\bassert\\b", "\\bDouble\\.", "\\bFloat\\.", "\\bNaN\\b",
        "\\bSystem\\.(?!arraycopy\\b)", "\\bMath\\.\\w+Exact\\b", "\\bStrictMath\\b", "\\bThread\\b", "\\bgetMessage\\b",
        "\\bpackage\\b", "\\bstatic\\s*\\{", "\\bextends\\s+\\w*Exception\\b",
        "\\bcatch\\s*\\([^)]*\\b(Throwable|Error|Exception|NullPointerException|ArrayIndexOutOfBoundsException"
            + "|ClassCastException|NegativeArraySizeException|ArrayStoreException)\\b",
    };

    private static final Set<String> IMPORTS = Set.of(
        "java.util.NoSuchElementException", "java.util.ArrayList", "java.util.List", "java.util.Arrays", "java.util.Iterator");

    public static void main(String[] args) throws Exception {
        theMethods();
        theThrowsClauses();
        theConstructorAndTheConstant();
        theInnerClasses();
        noLambdas();
        theSource();
        Due.finish();
    }

    private static void theMethods() {
        Set<String> visible = new TreeSet<>();
        Set<String> publicNames = new TreeSet<>();
        for (Method m : HarbourBoard.class.getDeclaredMethods()) {
            if (!Modifier.isPrivate(m.getModifiers())) {
                visible.add(withoutThrows(m.toString()));
                publicNames.add(m.getName());
            }
        }
        Set<String> due = new TreeSet<>();
        for (String line : FACE) {
            due.add(withoutThrows(line));
        }
        Due.same("the visible methods", visible.toString(), due.toString());
        for (Method m : HarbourBoard.class.getDeclaredMethods()) {
            boolean hidden = Modifier.isPrivate(m.getModifiers());
            Due.is(m + " is private and bears a public method's name", () -> hidden && publicNames.contains(m.getName()), false);
        }
    }

    private static String withoutThrows(String method) {
        return method.replaceAll(" throws .*", "");
    }

    /** A clause may be left out, since no caller can tell; what the face does not name, no caller has to reckon with. */
    private static void theThrowsClauses() {
        for (String line : FACE) {
            for (Method m : HarbourBoard.class.getMethods()) {
                if (withoutThrows(m.toString()).equals(withoutThrows(line))) {
                    Set<String> named = Set.of(line.replaceAll(".* throws ", "").split(", "));
                    for (Class<?> declared : m.getExceptionTypes()) {
                        Due.is(m + ": the face names " + declared, () -> named.contains(declared.getSimpleName()), true);
                    }
                }
            }
        }
        Due.is("exceptions of the constructor", () -> HarbourBoard.class.getConstructor().getExceptionTypes().length, 0);
    }

    private static void theConstructorAndTheConstant() throws Exception {
        Due.is("the class is public and final",
            () -> HarbourBoard.class.getModifiers() == (Modifier.PUBLIC | Modifier.FINAL), true);
        Constructor<?>[] constructors = HarbourBoard.class.getDeclaredConstructors();
        Due.is("constructors", () -> constructors.length, 1);
        Due.same("the constructor", constructors[0].toString(), "public HarbourBoard()");
        for (Field f : HarbourBoard.class.getDeclaredFields()) {
            boolean none = f.getName().equals("NONE");
            Due.is(f + " is private", () -> Modifier.isPrivate(f.getModifiers()), !none);
            boolean changeable = Modifier.isStatic(f.getModifiers()) && !Modifier.isFinal(f.getModifiers());
            Due.is(f + " is static and not final", () -> changeable, false);
        }
        Due.same("NONE", HarbourBoard.class.getDeclaredField("NONE").toString(), "public static final int HarbourBoard.NONE");
        Due.is("NONE", () -> HarbourBoard.NONE, -1);
    }

    private static void theInnerClasses() {
        for (Class<?> c : HarbourBoard.class.getDeclaredClasses()) {
            int m = c.getModifiers();
            Due.is(c + " is static, and neither public nor protected",
                () -> Modifier.isStatic(m) && !Modifier.isPublic(m) && !Modifier.isProtected(m), true);
        }
    }

    /** Asked of the compiled classes, since the sign of a lambda is that of a switch as well. */
    private static void noLambdas() {
        List<Class<?>> all = new ArrayList<>(List.of(HarbourBoard.class.getDeclaredClasses()));
        all.add(HarbourBoard.class);
        for (Class<?> c : all) {
            for (Method m : c.getDeclaredMethods()) {
                Due.is(m + " is a lambda", () -> m.getName().startsWith("lambda$"), false);
            }
        }
    }

    private static void theSource() throws Exception {
        String source = Files.readString(Path.of("src/main/java/HarbourBoard.java"));
        String code = source.replaceAll("(?s)/\\*.*?\\*/", "").replaceAll("//[^\n]*", "").replaceAll("\"[^\"]*\"", "\"\"");
        for (String word : RULED_OUT) {
            Due.is("the code has '" + word + "'", () -> Pattern.compile(word).matcher(code).find(), false);
        }
        Matcher imports = Pattern.compile("(?m)^import\\s+([^;]*);").matcher(code);
        while (imports.find()) {
            String name = imports.group(1);
            Due.is("the library has " + name, () -> IMPORTS.contains(name), true);
        }
    }
}
