import java.io.IOException;
import java.lang.reflect.Constructor;
import java.lang.reflect.Field;
import java.lang.reflect.Method;
import java.lang.reflect.Modifier;
import java.nio.file.Files;
import java.nio.file.Path;
import java.util.Arrays;
import java.util.Set;
import java.util.TreeSet;
import java.util.regex.Matcher;
import java.util.regex.Pattern;

/** The face is just as the document prints it, and the file keeps to what LANGUAGE.md leaves. */
public final class FaceTest {
    private static final String SOURCE = "src/main/java/BoxcarHouses.java";

    private static final String[] FACE = {
        "int width(int)", "int piece(int,int,int,boolean)", "int about(int,int)", "int meet(int,int,int,int)",
        "int apart()", "int mirror()", "int stretch(int,int)", "int why(int,int)", "int lean(int,int,boolean)",
        "int order(int)", "int below(int)", "int sort(int,int,int)", "int saw(int)", "int price()", "int boards()",
        "int board(int)", "int ofBoard(int,int)", "int other(int)", "int car(int,int)", "int packing()",
        "int carOf(int)", "int turned(int)", "int report(int,int,int,int,boolean)", "int sure(int)",
        "int explains(int,boolean)", "int likely(int)", "int causes()", "int cause(int)", "int pass(int)",
        "int loan(int,int,int)", "int pay(int,int)", "int work(int,boolean)", "long as(int,int,int)",
        "int arrears(int)", "int term(int)", "int feed(int,long)", "int fault(int)", "int force(int)",
        "int may(int)", "long takeBack(int)", "int soon(int)", "int count(int)"};

    public static void main(String[] args) throws IOException {
        methods();
        constants();
        namesInside();
        words();
        Due.end();
    }

    private static void methods() {
        Set<String> found = new TreeSet<>();
        for (Method m : BoxcarHouses.class.getDeclaredMethods()) {
            if (!Modifier.isPrivate(m.getModifiers())) {
                found.add(told(m));
            }
        }
        Set<String> due = new TreeSet<>(Arrays.asList(FACE));
        Due.truth("methods are " + found, found.equals(due));
        int flags = BoxcarHouses.class.getModifiers();
        Due.truth("public and final", Modifier.isPublic(flags) && Modifier.isFinal(flags));
        Constructor<?>[] makers = BoxcarHouses.class.getDeclaredConstructors();
        Due.truth("one public constructor without arguments",
                makers.length == 1 && makers[0].getParameterCount() == 0 && Modifier.isPublic(makers[0].getModifiers()));
    }

    private static String told(Method m) {
        StringBuilder text = new StringBuilder(m.getReturnType() + " " + m.getName() + "(");
        for (Class<?> kind : m.getParameterTypes()) {
            text.append(text.charAt(text.length() - 1) == '(' ? "" : ",").append(kind);
        }
        return text.append(")").toString();
    }

    private static void constants() {
        Set<String> found = new TreeSet<>();
        for (Field f : BoxcarHouses.class.getDeclaredFields()) {
            if (!Modifier.isPrivate(f.getModifiers())) {
                found.add(Modifier.toString(f.getModifiers()) + " " + f.getType() + " " + f.getName());
            }
        }
        Set<String> due = new TreeSet<>();
        for (String name : new String[] {"UNKNOWN", "OUTSIDE", "STATE", "FULL", "NONE"}) {
            due.add("public static final int " + name);
        }
        Due.truth("constants are " + found, found.equals(due));
        Due.is("UNKNOWN", BoxcarHouses.UNKNOWN, -900001);
        Due.is("OUTSIDE", BoxcarHouses.OUTSIDE, -900002);
        Due.is("STATE", BoxcarHouses.STATE, -900003);
        Due.is("FULL", BoxcarHouses.FULL, -900004);
        Due.is("NONE", BoxcarHouses.NONE, -900009);
    }

    /** Rules 1, 2, 5, 11: names, kinds and numbers of what stands inside. */
    private static void namesInside() {
        Set<String> taken = new TreeSet<>();
        for (String line : FACE) {
            taken.add(line.substring(line.indexOf(' ') + 1, line.indexOf('(')));
        }
        Class<?>[] inside = BoxcarHouses.class.getDeclaredClasses();
        Due.truth("at most twelve classes", inside.length + 1 <= 12);
        for (Class<?> c : inside) {
            Due.truth(c + " is static", Modifier.isStatic(c.getModifiers()));
            int held = 0;
            for (Field f : c.getDeclaredFields()) {
                held += Modifier.isStatic(f.getModifiers()) ? 0 : 1;
                Due.truth(f + " is final if static", !Modifier.isStatic(f.getModifiers()) || Modifier.isFinal(f.getModifiers()));
            }
            Due.truth(c + " has at most twenty fields", held <= 20);
            for (Method m : c.getDeclaredMethods()) {
                Due.truth(m + " bears no name of the face", !taken.contains(m.getName()));
                Due.truth(m + " takes at most seven", m.getParameterCount() <= 7);
            }
        }
    }

    private static void words() throws IOException {
        String code = withoutComments(Files.readString(Path.of(SOURCE)));
        String[] ruledOut = {"\\bthrow\\b", "\\btry\\b", "\\bcatch\\b", "\\bsynchronized\\b", "\\bassert\\b", "->", "::",
            "\\bimport\\b", "\\bpackage\\b", "Exact\\b", "\\bSystem\\.(?!arraycopy)", "\\bRandom\\b", "\\bThread\\b",
            "\\bprotected\\b", "\\bvar\\b", "\\bObject\\b", "\\bdouble\\b", "\\bfloat\\b"};
        for (String word : ruledOut) {
            Matcher m = Pattern.compile(word).matcher(code);
            Due.truth("no " + word, !m.find());
        }
        Due.truth("signs 1 to 127 alone", code.chars().allMatch(c -> c >= 1 && c <= 127));
    }

    private static String withoutComments(String code) {
        return code.replaceAll("(?s)/\\*.*?\\*/", "").replaceAll("//[^\n]*", "");
    }
}
