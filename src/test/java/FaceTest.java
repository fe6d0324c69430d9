import java.io.IOException;
import java.lang.reflect.Constructor;
import java.lang.reflect.Field;
import java.lang.reflect.Method;
import java.lang.reflect.Modifier;
import java.nio.charset.StandardCharsets;
import java.nio.file.Files;
import java.nio.file.Path;
import java.util.Set;
import java.util.TreeSet;
import java.util.regex.Matcher;
import java.util.regex.Pattern;

/** The document's face and nothing else, and those rules of LANGUAGE.md that can be looked up. */
public final class FaceTest {
    private static final Set<String> FACE = Set.of("int garden(int,int)", "int set(int,int,boolean)",
        "int put(int,int)", "int person(int,int,int)", "int move(int,int)", "int tell(int,int)",
        "int report(int,int)", "int clears(int)", "int type(long,int)", "int wipe()", "int read()",
        "int clear(int,int)", "int knows(int,int,int)", "int where(int)", "int may()", "int judge(int)",
        "int told(int)", "int place(int,int)", "int winds(int)", "int walk(int,int,int,int)",
        "int parade(int,int)", "int lesson(int,int)", "int speakers()", "int best(int)", "int worth(int,int)",
        "int spots(int,int)", "int image(int)", "int from(int)", "int status(int)", "int count(int)",
        "long digest()");
    private static int wrong;

    private static void need(boolean is, String what) {
        if (!is) {
            wrong++;
            System.out.println("not so: " + what);
        }
    }

    public static void main(String[] args) throws IOException {
        lookAtFace();
        for (Class<?> inside : HeardSeen.class.getDeclaredClasses()) {
            lookInside(inside);
        }
        need(HeardSeen.class.getDeclaredClasses().length <= 12, "twelve classes at most");
        String source = Files.readString(
            Path.of(System.getProperty("class.source", "src/main/java/HeardSeen.java")), StandardCharsets.UTF_8);
        lookAtSource(source);
        System.out.println(wrong == 0 ? "FaceTest: as due" : "FaceTest: " + wrong + " wrong");
        System.exit(wrong == 0 ? 0 : 1);
    }

    private static void lookAtFace() {
        Class<HeardSeen> face = HeardSeen.class;
        need(Modifier.isPublic(face.getModifiers()) && Modifier.isFinal(face.getModifiers()), "public and final");
        Set<String> found = new TreeSet<>();
        Set<String> names = new TreeSet<>();
        for (Method m : face.getDeclaredMethods()) {
            if (Modifier.isPublic(m.getModifiers())) {
                StringBuilder sign = new StringBuilder(m.getReturnType() + " " + m.getName() + "(");
                for (Class<?> p : m.getParameterTypes()) {
                    sign.append(sign.charAt(sign.length() - 1) == '(' ? "" : ",").append(p);
                }
                found.add(sign.append(")").toString());
                names.add(m.getName());
                need(!Modifier.isStatic(m.getModifiers()), m + " is of an object");
            } else {
                need(Modifier.isPrivate(m.getModifiers()), m + " is private");
            }
        }
        need(found.equals(FACE), "the methods are " + FACE + ", not " + found);
        for (Method m : face.getDeclaredMethods()) {
            need(Modifier.isPublic(m.getModifiers()) || !names.contains(m.getName()), m + " has a name of its own");
        }
        Constructor<?>[] makers = face.getDeclaredConstructors();
        need(makers.length == 1 && Modifier.isPublic(makers[0].getModifiers())
            && makers[0].getParameterCount() == 0, "one public constructor");
        Set<String> constants = new TreeSet<>();
        for (Field f : face.getDeclaredFields()) {
            if (Modifier.isPublic(f.getModifiers())) {
                constants.add(f.getName());
            }
            need(Modifier.isPublic(f.getModifiers()) || Modifier.isPrivate(f.getModifiers()), f + " is private");
            lookAtField(f);
        }
        need(constants.equals(Set.of("NONE", "BAD", "NO", "FULL")), "the constants");
        need(HeardSeen.NONE == -1 && HeardSeen.BAD == -2 && HeardSeen.NO == -3 && HeardSeen.FULL == -4, "-1 .. -4");
    }

    private static void lookAtField(Field f) {
        if (Modifier.isStatic(f.getModifiers())) {
            need(Modifier.isFinal(f.getModifiers()), f + " is final");
            need(f.getType().isPrimitive() || f.getType() == String.class, f + " is a constant");
        }
    }

    private static void lookInside(Class<?> inside) {
        need(Modifier.isStatic(inside.getModifiers()), inside + " is static");
        need(!Modifier.isPublic(inside.getModifiers()), inside + " is not public");
        int fields = 0;
        for (Field f : inside.getDeclaredFields()) {
            lookAtField(f);
            fields += Modifier.isStatic(f.getModifiers()) ? 0 : 1;
        }
        need(fields <= 20, inside + " has twenty fields at most");
        for (Method m : inside.getDeclaredMethods()) {
            need(m.getParameterCount() <= 7, m + " takes seven at most");
            for (String sign : FACE) {
                need(!sign.contains(" " + m.getName() + "("), m + " has a name of its own");
            }
        }
    }

    private static void lookAtSource(String source) {
        for (int k = 0; k < source.length(); k++) {
            char c = source.charAt(k);
            need(c == '\n' || c >= 32 && c < 127, "plain signs alone, at " + k);
        }
        Pattern asides = Pattern.compile("/\\*.*?\\*/|//[^\n]*|\"[^\"\n]*\"", Pattern.DOTALL);
        String bare = asides.matcher(source).replaceAll(" ");
        String[] never = {"throw", "throws", "try", "catch", "finally", "synchronized", "assert", "import", "package",
            "volatile", "transient", "native", "Object", "Exception", "hashCode", "toString", "protected"};
        for (String word : never) {
            need(!Pattern.compile("\\b" + word + "\\b").matcher(bare).find(), "no " + word);
        }
        need(!bare.contains("->") && !bare.contains("::") && !bare.contains("@"), "no lambda, reference, annotation");
        Matcher library = Pattern.compile("\\b(Math|Integer|Long|System|Arrays)\\.(\\w+)").matcher(bare);
        Set<String> listed = Set.of("Math.abs", "Math.max", "Math.min", "Integer.compare", "Long.bitCount",
            "System.arraycopy");
        while (library.find()) {
            need(listed.contains(library.group()), library.group() + " is listed");
        }
        lookAtElements(bare);
        lookAtLengths(bare);
    }

    /** What an array of objects holds may be null: it goes to a variable, or is compared with null, ahead of its use. */
    private static void lookAtElements(String bare) {
        need(!Pattern.compile("\\]\\s*\\.").matcher(bare).find(), "no member of an array's element without a test");
        Matcher arrays = Pattern.compile("\\b(?:Garden|Person)\\[\\] (\\w+) =").matcher(bare);
        int found = 0;
        while (arrays.find()) {
            found++;
            Matcher given = Pattern.compile("\\(" + arrays.group(1) + "\\[\\w+\\]\\)").matcher(bare);
            need(!given.find(), "no element of " + arrays.group(1) + " is handed on without a test");
        }
        need(found == 2, "two arrays of objects");
    }

    /** A method is what stands between a line that ends in ") {" and the brace at its own depth. */
    private static void lookAtLengths(String bare) {
        String[] lines = bare.split("\n");
        for (int k = 0; k < lines.length; k++) {
            Matcher head = Pattern.compile("^((?: {4}){1,2})[\\w\\[\\] ]+\\([^=]*\\) \\{$").matcher(lines[k]);
            if (head.find()) {
                int end = k;
                while (end < lines.length - 1 && !lines[end].equals(head.group(1) + "}")) {
                    end++;
                }
                need(end - k <= 60, lines[k].trim() + " has sixty lines at most");
            }
        }
    }
}
