import java.lang.reflect.Constructor;
import java.lang.reflect.Field;
import java.lang.reflect.Method;
import java.lang.reflect.Modifier;
import java.nio.file.Files;
import java.nio.file.Path;
import java.util.ArrayList;
import java.util.List;
import java.util.Set;
import java.util.TreeSet;

/** The public face is the document's, to the letter, and what LANGUAGE.md rules out is not there. */
public final class FaceTest {
    private static final String[] FACE = {
        "public boolean HarbourBoard.gale(int,float) throws java.lang.IllegalArgumentException",
        "public boolean HarbourBoard.holds(int,int,int,int) throws java.lang.IllegalArgumentException",
        "public boolean HarbourBoard.lift(int,int) throws java.lang.IllegalArgumentException",
        "public boolean HarbourBoard.mark(int,int,double) throws java.lang.IllegalArgumentException",
        "public double HarbourBoard.highest(int) throws java.lang.IllegalArgumentException,java.util.NoSuchElementException",
        "public float HarbourBoard.calmest(int) throws java.lang.IllegalArgumentException,java.util.NoSuchElementException",
        "public int HarbourBoard.clear(int) throws java.lang.IllegalArgumentException",
        "public int HarbourBoard.count(int,int,int,boolean) throws java.lang.IllegalArgumentException",
        "public int HarbourBoard.level(int,double) throws java.lang.IllegalArgumentException,java.lang.IllegalStateException",
        "public int HarbourBoard.move(boolean) throws java.lang.IllegalStateException,java.lang.UnsupportedOperationException,java.lang.ArithmeticException",
        "public int HarbourBoard.order(int) throws java.lang.IllegalArgumentException",
        "public int HarbourBoard.out(int,int) throws java.lang.IllegalArgumentException,java.lang.IllegalStateException",
        "public int HarbourBoard.pick(int,int,int,int) throws java.lang.IllegalArgumentException",
        "public int HarbourBoard.probe(double) throws java.lang.IllegalArgumentException",
        "public int HarbourBoard.probeOut(int) throws java.lang.IllegalArgumentException",
        "public int HarbourBoard.probeWind(float) throws java.lang.IllegalArgumentException",
        "public int HarbourBoard.run(int,int,int,boolean) throws java.lang.IllegalArgumentException",
        "public int HarbourBoard.same(int,int) throws java.lang.IllegalArgumentException",
        "public int HarbourBoard.size(int,int) throws java.lang.IllegalArgumentException",
        "public int HarbourBoard.stand(int) throws java.lang.IllegalArgumentException",
        "public int HarbourBoard.wind(int,float) throws java.lang.IllegalArgumentException,java.lang.IllegalStateException",
    };

    private static final String[] RULED_OUT = {
        "try ", "catch", "finally", "->", "::", "synchronized", "assert ", "Math.", "Double.", "Float.",
        "System.", "NaN", "protected ", "package ",
    };

    public static void main(String[] args) throws Exception {
        theMethods();
        theConstructorAndTheConstant();
        theInnerClasses();
        theSource();
        Due.finish();
    }

    private static void theMethods() {
        Set<String> visible = new TreeSet<>();
        Set<String> publicNames = new TreeSet<>();
        for (Method m : HarbourBoard.class.getDeclaredMethods()) {
            if (!Modifier.isPrivate(m.getModifiers())) {
                visible.add(m.toString());
                publicNames.add(m.getName());
            }
        }
        Due.same("the visible methods", visible.toString(), new TreeSet<>(List.of(FACE)).toString());
        List<Class<?>> all = new ArrayList<>(List.of(HarbourBoard.class.getDeclaredClasses()));
        all.add(HarbourBoard.class);
        for (Class<?> c : all) {
            for (Method m : c.getDeclaredMethods()) {
                boolean face = c == HarbourBoard.class && Modifier.isPublic(m.getModifiers());
                Due.is(m + " bears a public method's name", () -> !face && publicNames.contains(m.getName()), false);
            }
        }
    }

    private static void theConstructorAndTheConstant() throws Exception {
        Due.is("the class is public and final",
            () -> HarbourBoard.class.getModifiers() == (Modifier.PUBLIC | Modifier.FINAL), true);
        Constructor<?>[] constructors = HarbourBoard.class.getDeclaredConstructors();
        Due.is("constructors", () -> constructors.length, 1);
        Due.same("the constructor", constructors[0].toString(), "public HarbourBoard()");
        for (Field f : HarbourBoard.class.getDeclaredFields()) {
            boolean none = f.getName().equals("NONE");
            Due.is(f + " is private", () -> Modifier.isPrivate(f.getModifiers()), !none);
            boolean changeable = Modifier.isStatic(f.getModifiers()) && !Modifier.isFinal(f.getModifiers());
            Due.is(f + " is static and not final", () -> changeable, false);
        }
        Due.same("NONE", HarbourBoard.class.getDeclaredField("NONE").toString(), "public static final int HarbourBoard.NONE");
        Due.is("NONE", () -> HarbourBoard.NONE, -1);
    }

    private static void theInnerClasses() {
        for (Class<?> c : HarbourBoard.class.getDeclaredClasses()) {
            int m = c.getModifiers();
            Due.is(c + " is static, and neither public nor protected",
                () -> Modifier.isStatic(m) && !Modifier.isPublic(m) && !Modifier.isProtected(m), true);
        }
    }

    private static void theSource() throws Exception {
        String source = Files.readString(Path.of("src/main/java/HarbourBoard.java"));
        String code = source.replaceAll("(?s)/\\*.*?\\*/", "").replaceAll("//[^\n]*", "").replaceAll("\"[^\"]*\"", "\"\"");
        for (String word : RULED_OUT) {
            Due.is("the code has '" + word + "'", () -> code.contains(word), false);
        }
        Due.is("imports", () -> code.split("\nimport |^import ", -1).length - 1, 1);
    }
}
