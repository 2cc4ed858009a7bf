import java.io.IOException;
import java.nio.file.Files;
import java.nio.file.Path;
import java.util.ArrayList;
import java.util.List;
import java.util.Set;
import java.util.TreeSet;
import java.util.regex.Matcher;
import java.util.regex.Pattern;

/**
 * The rules of LANGUAGE.md that can be asked of the text of the class: words that may not stand in it,
 * the face, the length of methods, parameters, fields, classes, and the other texts of the project.
 */
public final class LanguageTest {
    private static int wrong;

    private LanguageTest() {
    }

    public static void main(String[] args) throws IOException {
        Path file = Path.of("src/main/java/VerseCommittee.java");
        String code = bare(Files.readString(file));
        forbidden(code);
        face(code);
        methods(code);
        classes(code);
        statics(code);
        library(code);
        System.out.println("language: " + (wrong == 0 ? "all rules that were asked are kept" : wrong + " faults"));
        if (wrong != 0) {
            System.exit(1);
        }
    }

    private static void fault(String text) {
        wrong++;
        System.out.println("language: " + text);
    }

    /** Without comments; signs between quotes become a blank letter. */
    private static String bare(String text) {
        String s = text.replaceAll("(?s)/\\*.*?\\*/", "").replaceAll("//[^\n]*", "");
        return s.replaceAll("'(\\\\.|[^'\\\\])'", "'_'");
    }

    private static void forbidden(String code) {
        String[] words = {"throw", "throws", "try", "catch", "finally", "synchronized", "assert", "instanceof", "import",
            "package", "record", "interface", "abstract", "protected", "equals", "hashCode", "toString", "volatile",
            "native", "transient", "strictfp", "float", "double", "var", "yield", "System", "Object", "String", "List",
            "ArrayList", "Exception", "Thread", "Character", "Long", "null\\s*\\."};
        for (String w : words) {
            if (Pattern.compile("\\b" + w + "\\b").matcher(code).find()) {
                fault("'" + w + "' stands in the class");
            }
        }
        for (String sign : new String[] {"->", "::", "\"", "@"}) {
            if (code.contains(sign)) {
                fault("'" + sign + "' stands in the class");
            }
        }
        for (String line : code.split("\n")) {
            for (int i = 0; i < line.length(); i++) {
                if (line.charAt(i) > 126) {
                    fault("a sign beyond 126: " + line);
                }
            }
        }
    }

    private static void face(String code) {
        Set<String> names = new TreeSet<>();
        Matcher m = Pattern.compile("\n    public (?:int|boolean) (\\w+)\\(").matcher(code);
        while (m.find()) {
            names.add(m.group(1));
        }
        String[] due = {"now", "feed", "verse", "source", "word", "spell", "syllables", "company", "centre", "scholar", "rules",
            "holds", "asks", "token", "differ", "render", "vote", "close", "voids", "fixed", "fixedOn", "breaches", "breach",
            "quarrel", "unlike", "option", "apart", "cost", "one", "line", "reads", "missed", "changes", "printed", "plan",
            "judge", "check", "look", "count"};
        if (!names.equals(new TreeSet<>(List.of(due)))) {
            fault("the face is not that of the document: " + names);
        }
        if (Pattern.compile("\n {5,}public ").matcher(code).find()) {
            fault("something public stands within a class inside");
        }
        Matcher open = Pattern.compile("\n    (?!private |public )(\\w[^\n]*[;{])").matcher(code);
        while (open.find()) {
            fault("a member that all may see: " + open.group(1));
        }
        Matcher own = Pattern.compile("\n {4,}(?:private |static |final )*(?:int|boolean|void|int\\[\\]|[A-Z]\\w*) (\\w+)\\(")
                .matcher(code);
        while (own.find()) {
            if (names.contains(own.group(1))) {
                fault("a method bears the name of a public one: " + own.group(1));
            }
        }
    }

    private static void methods(String code) {
        String[] lines = code.split("\n");
        int start = -1;
        String indent = "";
        for (int i = 0; i < lines.length; i++) {
            String line = lines[i];
            if (start < 0 && line.matches(" {4,8}[^=;]*\\([^;=]*\\) \\{") && !line.matches(".*\\b(if|for|while|switch|else)\\b.*")) {
                start = i;
                indent = line.replaceAll("\\S.*", "");
                String inside = line.substring(line.indexOf('(') + 1, line.indexOf(')'));
                if (inside.split(",").length > 7) {
                    fault("more than seven parameters: " + line);
                }
            } else if (start >= 0 && line.equals(indent + "}")) {
                if (i - start > 60) {
                    fault("longer than sixty lines: " + lines[start]);
                }
                start = -1;
            }
        }
    }

    private static void classes(String code) {
        List<String> names = new ArrayList<>();
        Matcher m = Pattern.compile("(?m)^( *)((?:\\w+ )*)class (\\w+)").matcher(code);
        while (m.find()) {
            names.add(m.group(3));
            boolean outer = m.group(1).isEmpty() && m.group(2).equals("public final ");
            if (!outer && !m.group(2).equals("private static final ")) {
                fault("a class inside that is not private and static: " + m.group(3));
            }
        }
        if (names.size() > 12) {
            fault("more than twelve classes: " + names);
        }
        String[] parts = code.split("(?m)^ *(?:\\w+ )*class ");
        for (String part : parts) {
            int fields = 0;
            Matcher f = Pattern.compile("(?m)^ {4,8}private (?:final )?[\\w\\[\\]]+ \\w+(?: = [^;]*)?;").matcher(part);
            while (f.find()) {
                fields++;
            }
            if (fields > 20) {
                fault(fields + " fields in " + part.substring(0, part.indexOf(' ')));
            }
        }
    }

    private static void statics(String code) {
        Matcher m = Pattern.compile("(?m)^ *[\\w ]*\\bstatic\\b[^(\n]*;").matcher(code);
        while (m.find()) {
            String line = m.group().trim();
            if (!line.matches("(private|public) static final (int|long|boolean|char|int\\[\\]) [A-Z_]+ = .*;")) {
                fault("a static field that is no constant: " + line);
            }
        }
        if (Pattern.compile("static\\s*\\{").matcher(code).find()) {
            fault("a static block");
        }
    }

    private static void library(String code) {
        Set<String> allowed = Set.of("Math.min", "Math.max", "Integer.bitCount");
        Matcher m = Pattern.compile("\\b(Math|Integer|Long|Arrays|String|System)\\.\\w+").matcher(code);
        while (m.find()) {
            if (!allowed.contains(m.group())) {
                fault("not of the library: " + m.group());
            }
        }
    }
}
