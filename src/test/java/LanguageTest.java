import java.io.IOException;
import java.lang.reflect.Field;
import java.lang.reflect.Method;
import java.lang.reflect.Modifier;
import java.nio.file.Files;
import java.nio.file.Path;
import java.util.ArrayList;
import java.util.Arrays;
import java.util.HashSet;
import java.util.List;
import java.util.Set;
import java.util.TreeSet;
import java.util.regex.Matcher;
import java.util.regex.Pattern;

/** What can be seen of LANGUAGE.md's rules by looking at the class and at its text. */
public final class LanguageTest {
    private static final String FACE = "int sign(int);boolean end(int);int town();int street(int,int);"
            + "int next(int,int);int sheet(int,int,int,int);int far(int,int);int pass(long);int name(int,long);"
            + "int where(int,long);int same(long,long);int period();long meets(int,int,long);"
            + "long trade(int,int,long);int bears(int);long often(int,int,long);int quiet();int letter(int,long);"
            + "int home(int);int means(int,long,long);int smudge(int,int);int misread(int,int);int shifts(int);"
            + "int asks(int,long,long);int answer(int,int);int cycles(int);int roots(int,int);int mends(long);"
            + "int carries(int,int);int best(int);int days(int,int,int);int postman(int);int travels(int,int);"
            + "int round(int,int,int);int rule();int late(int,int,int);int sends(int);int walk(int,int);"
            + "int meet(int);int wish(int,int,int);int kept();int choose(int);int proof();int decree(int);"
            + "boolean swap(int,int);int soonest();boolean keep(int);boolean again(int);int count(int);"
            + "long today();long row(int)";
    /** Rule 4 lists functions of Integer, Long and Math alone: none of their constants. */
    private static final Set<String> CALLS_OUT =
            Set.of("Math.max", "Math.min", "Integer.bitCount", "Arrays.fill", "System.arraycopy");
    private static final Set<Class<?>> CONSTANTS =
            Set.of(int.class, long.class, boolean.class, char.class, String.class);
    private static final Set<Class<?>> FIELDS = Set.of(int.class, long.class, boolean.class, char.class, int[].class,
            long[].class, char[].class, int[][].class, long[][].class, String.class);
    private static int wrong;

    public static void main(String[] args) throws IOException {
        face();
        classes();
        String path = System.getProperty("streets.source", "src/main/java/StreetsStepOn.java");
        text(Files.readAllLines(Path.of(path)));
        System.out.println(wrong + " faults");
        if (wrong != 0) {
            System.exit(1);
        }
    }

    private static void fault(boolean is, String what) {
        if (is) {
            wrong++;
            System.out.println(what);
        }
    }

    private static void face() {
        Class<?> type = StreetsStepOn.class;
        fault(type.getModifiers() != (Modifier.PUBLIC | Modifier.FINAL), "1: public and final");
        Set<String> due = new TreeSet<>(Arrays.asList(FACE.split(";")));
        Set<String> got = new TreeSet<>();
        for (Method method : type.getDeclaredMethods()) {
            if (Modifier.isPublic(method.getModifiers())) {
                List<String> types = new ArrayList<>();
                for (Class<?> parameter : method.getParameterTypes()) {
                    types.add(parameter.getName());
                }
                got.add(method.getReturnType() + " " + method.getName() + "(" + String.join(",", types) + ")");
            } else {
                fault(!Modifier.isPrivate(method.getModifiers()), "1: neither public nor private: " + method);
            }
        }
        fault(!got.equals(due) || due.size() != 51, "1: the face is " + got);
        for (Field field : type.getDeclaredFields()) {
            boolean none = field.getName().equals("NONE") && field.getModifiers() == (Modifier.PUBLIC | Modifier.STATIC
                    | Modifier.FINAL);
            fault(!none && !Modifier.isPrivate(field.getModifiers()), "1: " + field);
        }
        fault(type.getDeclaredConstructors().length != 1 || type.getConstructors().length != 1, "1: one constructor");
    }

    private static void classes() {
        Set<String> faceNames = new HashSet<>();
        for (Method method : StreetsStepOn.class.getDeclaredMethods()) {
            if (Modifier.isPublic(method.getModifiers())) {
                faceNames.add(method.getName());
            }
        }
        List<Class<?>> all = new ArrayList<>(List.of(StreetsStepOn.class.getDeclaredClasses()));
        for (Class<?> inside : all) {
            fault(!Modifier.isStatic(inside.getModifiers()) || !Modifier.isPrivate(inside.getModifiers())
                    || !Modifier.isFinal(inside.getModifiers()), "1: " + inside);
            fault(inside.getDeclaredClasses().length != 0, "1: a class in " + inside);
        }
        all.add(StreetsStepOn.class);
        fault(all.size() > 12, "11: " + all.size() + " classes");
        for (Class<?> type : all) {
            int fields = 0;
            for (Field field : type.getDeclaredFields()) {
                boolean constant = Modifier.isStatic(field.getModifiers());
                fault(constant && (!Modifier.isFinal(field.getModifiers()) || !CONSTANTS.contains(field.getType())),
                        "5: " + field);
                boolean own = all.contains(field.getType())
                        || field.getType().isArray() && all.contains(field.getType().getComponentType());
                fault(!constant && !own && !FIELDS.contains(field.getType()), "3: " + field);
                fields += constant ? 0 : 1;
            }
            fault(fields > 20, "11: " + fields + " fields in " + type);
            for (Method method : type.getDeclaredMethods()) {
                fault(method.getParameterCount() > 7, "11: " + method);
                boolean face = type == StreetsStepOn.class && Modifier.isPublic(method.getModifiers());
                fault(!face && faceNames.contains(method.getName()), "1: a name of the face: " + method);
                fault(method.isSynthetic(), "2: " + method);
            }
        }
    }

    private static void text(List<String> lines) {
        Pattern out = Pattern.compile("\\b(Math|Integer|Long|Arrays|System|Character|String|List|Objects)\\.\\w+");
        Pattern header = Pattern.compile("^( {4}| {8})(public |private |static )*[\\w\\[\\]]+ \\w+\\(.*\\{$");
        int start = -1;
        String indent = "";
        for (int i = 0; i < lines.size(); i++) {
            String line = lines.get(i);
            String at = " in line " + (i + 1) + ": " + line.trim();
            String code = line.trim().startsWith("*") || line.trim().startsWith("/") ? "" : line;
            fault(line.startsWith("import ") && !line.equals("import java.util.Arrays;")
                    && !line.equals("import java.util.NoSuchElementException;"), "4: import" + at);
            fault(line.startsWith("package "), "a package" + at);
            fault(code.matches(".*(->|::|\\b(finally|try|catch|synchronized|assert|instanceof|double|float|var)\\b).*"),
                    "2, 3, 6" + at);
            fault(code.matches(".*\\bthrow\\b.*") && !code.trim().equals("throw new NoSuchElementException();"),
                    "6" + at);
            boolean made = code.trim().matches("(private final )?[\\w\\[\\]]+( \\w+)? = new .*;");
            fault(code.matches(".*\\bnew\\b.*") && !code.contains("throw") && !made, "12: made in a call" + at);
            fault(code.chars().anyMatch(c -> c < 32 || c > 126), "4: a sign" + at);
            fault(line.length() > 120, "a long line" + at);
            Matcher matcher = out.matcher(code);
            while (matcher.find()) {
                fault(!CALLS_OUT.contains(matcher.group()), "4: " + matcher.group() + at);
            }
            Matcher begins = header.matcher(code);
            if (begins.matches()) {
                start = i;
                indent = begins.group(1);
            }
            if (start >= 0 && line.equals(indent + "}")) {
                fault(i - start > 60, "11: " + (i - start) + " lines behind line " + (start + 1));
                start = -1;
            }
        }
    }
}
