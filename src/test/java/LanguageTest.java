import java.lang.management.ManagementFactory;
import java.lang.reflect.Constructor;
import java.lang.reflect.Field;
import java.lang.reflect.Method;
import java.lang.reflect.Modifier;
import java.nio.charset.StandardCharsets;
import java.nio.file.Files;
import java.nio.file.Path;
import java.util.Arrays;
import java.util.List;
import java.util.Set;
import java.util.TreeSet;
import java.util.regex.Matcher;
import java.util.regex.Pattern;
import java.util.stream.Collectors;

/** Looks at the face of the class, at the rules of LANGUAGE.md that a machine can see, and at what calls make. */
public final class LanguageTest extends Checks {
    private static final String I = "IndexOutOfBoundsException";
    private static final String A = "IllegalArgumentException";
    private static final String S = "IllegalStateException";

    private static int wrong;

    public static void main(String[] args) throws Exception {
        theFace();
        theClassesInside();
        theSource();
        theHeadings();
        theRoom();
        if (wrong > 0) {
            System.out.println("LanguageTest: " + wrong + " faults");
            System.exit(1);
        }
        System.out.println("LanguageTest: the face, the rules and the room hold");
    }

    private static void must(boolean holds, String what) {
        if (!holds) {
            wrong++;
            System.out.println("LanguageTest: " + what);
        }
    }

    private static final String[] FACE = {
        "int begin(int) " + A,
        "int promise(int,int,int,int) " + I + "," + A + "," + S,
        "int pay(int,int) " + I + "," + A + "," + S,
        "int dispute(int) " + I + "," + S,
        "int settle(int) " + I + "," + S,
        "int discharge(int,int) " + I + "," + A + "," + S,
        "int dischargeBest() " + S,
        "int dischargeAll() ",
        "int promiseOf(int,int) " + I + "," + A,
        "int debt(int,int) " + I,
        "int net(int) " + I,
        "int ring(int,int) " + I + "," + A,
        "int room(int) " + I,
        "int value(int) " + A,
        "int saving(int) " + I,
        "int bestRing() ",
        "int costByRings() ",
        "int leastCost() ",
        "int ringsWithout(int) " + I,
        "int keyPromise() ",
        "int mutual(int) " + I,
        "int append(int) " + A + "," + S,
        "int clearText() ",
        "int carryOut() ",
        "int undo() " + S,
        "long digest() "};

    private static String names(Class<?>[] types) {
        return Arrays.stream(types).map(Class::getSimpleName).collect(Collectors.joining(","));
    }

    private static void theFace() throws Exception {
        Class<?> c = PledgeRings.class;
        must(Modifier.isPublic(c.getModifiers()) && Modifier.isFinal(c.getModifiers()), "the class is public and final");
        Set<String> found = new TreeSet<>();
        for (Method m : c.getDeclaredMethods()) {
            if (Modifier.isPublic(m.getModifiers()) && !Modifier.isStatic(m.getModifiers())) {
                found.add(m.getReturnType().getSimpleName() + " " + m.getName() + "(" + names(m.getParameterTypes()) + ") "
                        + names(m.getExceptionTypes()));
            } else {
                must(Modifier.isPrivate(m.getModifiers()), "private: " + m.getName());
            }
        }
        Set<String> due = new TreeSet<>(Arrays.asList(FACE));
        must(found.equals(due), "the methods are " + found + ", due are " + due);
        for (Field f : c.getDeclaredFields()) {
            must(Modifier.isPrivate(f.getModifiers()) || f.getName().equals("NONE"), "private: " + f.getName());
        }
        Field none = c.getDeclaredField("NONE");
        must(none.getModifiers() == (Modifier.PUBLIC | Modifier.STATIC | Modifier.FINAL), "NONE is a public constant");
        Constructor<?>[] all = c.getDeclaredConstructors();
        must(all.length == 1 && Modifier.isPublic(all[0].getModifiers()) && all[0].getParameterCount() == 0,
                "there is one public constructor");
    }

    private static void theClassesInside() {
        Set<String> face = Arrays.stream(FACE).map(f -> f.substring(f.indexOf(' ') + 1, f.indexOf('(')))
                .collect(Collectors.toSet());
        Class<?>[] inside = PledgeRings.class.getDeclaredClasses();
        must(inside.length <= 11, "the file has at most twelve classes");
        for (Class<?> c : inside) {
            must(Modifier.isStatic(c.getModifiers()) && !Modifier.isPublic(c.getModifiers())
                    && !Modifier.isProtected(c.getModifiers()), "static and not public: " + c.getName());
            for (Method m : c.getDeclaredMethods()) {
                must(!face.contains(m.getName()), "no name of the face: " + c.getName() + "." + m.getName());
                must(m.getParameterCount() <= 7, "seven parameters: " + m.getName());
            }
            long fields = Arrays.stream(c.getDeclaredFields()).filter(f -> !Modifier.isStatic(f.getModifiers())).count();
            must(fields <= 20, "twenty fields: " + c.getName());
        }
    }

    private static void theSource() throws Exception {
        byte[] bytes = Files.readAllBytes(Path.of("src/main/java/PledgeRings.java"));
        for (byte b : bytes) {
            must(b == '\n' || b >= ' ' && b < 127, "a byte of the source is " + b);
        }
        String source = new String(bytes, StandardCharsets.US_ASCII);
        String bare = source.replaceAll("(?s)/\\*.*?\\*/", "").replaceAll("//[^\n]*", "").replaceAll("\"[^\"\n]*\"", "\"\"");
        String[] ruledOut = {"\\bpackage\\b", "\\bimport\\b", "->", "::", "\\btry\\b", "\\bcatch\\b", "\\bfinally\\b",
            "\\bsynchronized\\b", "\\bassert\\b", "\\bstatic\\s*\\{", "\\bequals\\b", "\\bhashCode\\b", "\\btoString\\b",
            "\\bclone\\b", "\\bgetMessage\\b", "Exact\\b", "\\bvar\\b", "\\bthis\\.\\w+\\s*\\("};
        for (String pattern : ruledOut) {
            must(!Pattern.compile(pattern).matcher(bare).find(), "the source has " + pattern);
        }
        Set<String> library = Set.of("Math.min", "Math.max", "System.arraycopy");
        Matcher call = Pattern.compile("\\b(?:Math|System|Arrays|Integer|Long|List|String)\\.\\w+").matcher(bare);
        while (call.find()) {
            must(library.contains(call.group()), "the library's " + call.group());
        }
        theLengths(Arrays.asList(source.split("\n")));
    }

    /** What the document says to stand ahead of calls must stand there, and those calls below it, in its order. */
    private static void theHeadings() throws Exception {
        String document = Files.readString(Path.of("../shared/DOC.md"));
        String source = Files.readString(Path.of("src/main/java/PledgeRings.java"));
        StringBuilder due = new StringBuilder();
        Matcher said = Pattern.compile("(?m)^Ahead of the calls (.*) the interface says: (---- .*)\\.$").matcher(document);
        while (said.find()) {
            due.append(said.group(2)).append(": ").append(said.group(1).replaceAll("[`,]", "")).append('\n');
        }
        StringBuilder found = new StringBuilder();
        Matcher line = Pattern.compile("(?m)^    (?:// (---- .*)|public (?:int|long) (\\w+)\\(.*)$").matcher(source);
        while (line.find()) {
            boolean isHeading = line.group(1) != null;
            String before = found.isEmpty() ? "" : "\n";
            found.append(isHeading ? before + line.group(1) + ":" : " " + line.group(2));
        }
        must(!due.isEmpty() && (found + "\n").equals(due.toString()), "the headings are\n" + found + "\ndue are\n" + due);
    }

    /** A method begins with an open brace four or eight signs in, and ends with one alone there. */
    private static void theLengths(List<String> lines) {
        for (String indent : new String[] {"    ", "        "}) {
            int start = -1;
            for (int k = 0; k < lines.size(); k++) {
                String line = lines.get(k);
                boolean isHead = line.startsWith(indent) && !line.startsWith(indent + " ") && line.contains("(");
                if (isHead) {
                    start = k;
                }
                if (line.equals(indent + "}") && start >= 0) {
                    must(k - start < 60, "short: " + lines.get(start).trim());
                    start = -1;
                }
            }
        }
    }

    /** An object and 500 of its dearest calls make some books alone, far below the room of a run. */
    private static void theRoom() {
        com.sun.management.ThreadMXBean bean = (com.sun.management.ThreadMXBean) ManagementFactory.getThreadMXBean();
        long self = Thread.currentThread().getId();
        theCalls();
        long before = bean.getThreadAllocatedBytes(self);
        theCalls();
        long made = bean.getThreadAllocatedBytes(self) - before;
        must(made < 60000, "an object and its calls made " + made + " bytes");
    }

    private static void theCalls() {
        PledgeRings x = forty();
        write(x, "a;b;x1;y1;p65:1,1;");
        for (int n = 0; n < 50; n++) {
            x.digest();
            x.costByRings();
            x.keyPromise();
            x.dischargeAll();
            x.undo();
            x.carryOut();
            x.undo();
        }
    }
}
