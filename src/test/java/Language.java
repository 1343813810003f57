import java.lang.reflect.Field;
import java.lang.reflect.Method;
import java.lang.reflect.Modifier;
import java.nio.file.Files;
import java.nio.file.Path;
import java.util.Arrays;
import java.util.Set;
import java.util.TreeSet;
import java.util.regex.Matcher;
import java.util.regex.Pattern;

/** The face, and the rules of LANGUAGE.md that can be seen from outside or in the text. Runs in the project's root. */
public final class Language {
    private static final String[] FACE = {
        "int sort(int,int,int,int,int,int)", "int of(int,int)", "int herd(int,int,int)", "int row(int,int,int)",
        "int month(int)", "int tell(int,int)", "int feed(int)", "int fence()", "int told(int)", "int fits(int)",
        "int bars()", "int hole(int)", "int alike(int)", "int missed()", "int mix()", "int prices(int)", "int hid()",
        "int months()", "long odds(int,int)", "long mean(int,int)", "int book(int,int)", "int looked()",
        "int judge(int,int)", "int image()", "int undo()", "int act(int,int,int)", "int trace(int)",
        "int taken(int,int)", "int count(int)", "int tape(int,int,int)", "int item(int,int,long)",
        "long read(int,int)", "int shift(int,int,int,int,int)",
    };
    private static final String[] BANNED = {
        "throw", "throws", "try", "catch", "finally", "synchronized", "assert", "->", "::", "static\\s*\\{", "package",
        "float", "double", "record", "transient", "volatile", "native", "System\\.(?!arraycopy)", "\\w+Exact\\(", "Object",
        "HashMap", "LinkedList", "Random", "Thread", "Exception", "Error", "hashCode", "toString", "new\\s+\\w+\\s*\\([^;]*\\)\\s*\\{",
    };
    private static int wrong = 0;

    public static void main(String[] args) throws Exception {
        face();
        classes();
        text(Files.readString(Path.of("src/main/java/FeetHorns.java")));
        System.out.println("language: " + wrong + " not as due");
        if (wrong != 0) {
            System.exit(1);
        }
    }

    private static void due(String what, boolean is) {
        if (!is) {
            wrong++;
            System.out.println(what);
        }
    }

    private static void face() throws Exception {
        Class<?> c = FeetHorns.class;
        due("1: public and final", c.getModifiers() == (Modifier.PUBLIC | Modifier.FINAL));
        due("1: one constructor", c.getDeclaredConstructors().length == 1
            && Modifier.isPublic(c.getDeclaredConstructor().getModifiers()));
        Set<String> methods = new TreeSet<>();
        for (Method m : c.getDeclaredMethods()) {
            if (!Modifier.isPrivate(m.getModifiers())) {
                String types = Arrays.toString(m.getParameterTypes()).replaceAll("[\\[\\] ]", "");
                methods.add(m.getReturnType() + " " + m.getName() + "(" + types + ")");
            }
        }
        Set<String> due = new TreeSet<>(Arrays.asList(FACE));
        due("1: methods are " + methods + ", due are " + due, methods.equals(due));
        Set<String> fields = new TreeSet<>();
        for (Field f : c.getDeclaredFields()) {
            if (!Modifier.isPrivate(f.getModifiers())) {
                due("1: a constant: " + f, f.getModifiers() == (Modifier.PUBLIC | Modifier.STATIC | Modifier.FINAL));
                fields.add(f.getName());
            }
        }
        due("1: constants are " + fields, fields.equals(Set.of("NONE", "BAD", "STATE", "FULL", "NO")));
        due("1: their values", FeetHorns.NONE == -1 && FeetHorns.BAD == -2 && FeetHorns.STATE == -3
            && FeetHorns.FULL == -4 && FeetHorns.NO == Long.MIN_VALUE);
    }

    private static void classes() {
        due("11: twelve classes", FeetHorns.class.getDeclaredClasses().length <= 11);
        for (Class<?> c : FeetHorns.class.getDeclaredClasses()) {
            due("2: static: " + c, Modifier.isStatic(c.getModifiers()) && !Modifier.isPublic(c.getModifiers()));
            own(c);
        }
        own(FeetHorns.class);
    }

    private static void own(Class<?> c) {
        int fields = 0;
        for (Field f : c.getDeclaredFields()) {
            boolean isStatic = Modifier.isStatic(f.getModifiers());
            fields += isStatic ? 0 : 1;
            due("5: a static field that is not final: " + f, !isStatic || Modifier.isFinal(f.getModifiers()));
        }
        due("11: twenty fields: " + c, fields <= 20);
        for (Method m : c.getDeclaredMethods()) {
            due("11: seven parameters: " + m, m.getParameterCount() <= 7);
            if (c != FeetHorns.class || Modifier.isPrivate(m.getModifiers())) {
                for (String face : FACE) {
                    due("1: a name of the face: " + m, !face.contains(" " + m.getName() + "("));
                }
            }
        }
    }

    private static void text(String source) {
        String code = source.replaceAll("(?s)/\\*.*?\\*/", "").replaceAll("//.*", "").replaceAll("\"[^\"\n]*\"", "\"\"");
        for (String banned : BANNED) {
            String pattern = Character.isLetter(banned.charAt(0)) ? "\\b" + banned + "(?!\\w)" : banned;
            Matcher m = Pattern.compile(banned.endsWith("(") || banned.contains("\\s") || banned.contains(".")
                ? banned : pattern).matcher(code);
            due("4, 6: " + banned, !m.find());
        }
        for (String line : code.split("\n")) {
            due("4: " + line, !line.startsWith("import") || line.equals("import java.util.Arrays;"));
            due("9: a loop without a bound of its own: " + line, !line.contains("while"));
        }
        // methods stand four or eight blanks in, and end with a brace as far in as they began
        for (String blanks : new String[] {"    ", "        "}) {
            Matcher m = Pattern.compile("(?m)^" + blanks + "\\w[^=;\n]*\\) \\{\n(?s:.*?)^" + blanks + "\\}").matcher(code);
            while (m.find()) {
                String head = m.group().substring(0, m.group().indexOf('\n'));
                due("11: sixty lines: " + head, m.group().split("\n").length <= 60);
            }
        }
    }
}
