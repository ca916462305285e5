import java.util.Set;
import java.util.regex.Matcher;
import java.util.regex.Pattern;

/** What the rules of LANGUAGE.md, and the project's own, tell of the text of the program. */
final class LanguageTest {
    private static final Set<String> THROWN = Set.of("IllegalStateException", "IllegalArgumentException",
            "IndexOutOfBoundsException", "ArithmeticException", "UnsupportedOperationException",
            "NoSuchElementException", "RuntimeException");
    private static final Set<String> MATH = Set.of("compare", "max", "min", "abs", "bitCount", "floorDiv",
            "floorMod");
    private static final String[] BANNED_WORDS = {"finally", "synchronized", "assert", "strictfp", "native",
        "volatile", "transient", "Object", "Thread", "Runtime", "Random", "package", "protected", "goto"};
    private static final int MOST_METHOD_LINES = 60;

    private LanguageTest() {
    }

    static void run() {
        String source = ReadmeTest.text("src/main/java/TideTablePainters.java");
        signs(source);
        texts(source);
        String code = withoutCommentsAndTexts(source);
        imports(code);
        bannedWords(code);
        library(code);
        exceptions(code);
        staticState(code);
        objects(code);
        loops(code);
        lengthOfMethods(code);
    }

    /** Rule 4: the signs of constants are 1 to 127; the whole text keeps to them. */
    private static void signs(String source) {
        Checks.no("rule 4: the program is there", source.isEmpty());
        Checks.yes("rule 4: signs", source.chars().allMatch(c -> c == '\n' || 32 <= c && c <= 126));
    }

    /** Rule 10: texts are not joined by +. */
    private static void texts(String source) {
        Checks.no("rule 10: texts joined", found(source, "\"\\s*\\+|\\+\\s*\""));
    }

    private static void imports(String code) {
        Matcher m = Pattern.compile("\\bimport\\b[^;]*;").matcher(code);
        while (m.find()) {
            Checks.yes("rule 4: " + m.group(), m.group().equals("import java.util.NoSuchElementException;"));
        }
        Checks.no("rule 4: a full name of the library",
                found(code.replace("import java.util.NoSuchElementException;", ""), "\\bjavax?\\s*\\."));
    }

    private static void bannedWords(String code) {
        for (String word : BANNED_WORDS) {
            Checks.no("rules 1, 6, 13: " + word, found(code, "\\b" + word + "\\b"));
        }
        Checks.no("rule 2: a lambda or a switch with arrows", found(code, "->"));
        Checks.no("rule 2: a method reference", found(code, "::"));
        Checks.no("rule 6: equals, hashCode or toString", found(code, "\\b(equals|hashCode|toString)\\b"));
        // The program needs no catch, so that none can answer for what the machine throws.
        Checks.no("rule 6: try or catch", found(code, "\\b(try|catch)\\b"));
    }

    /** Rule 4: of the library's static functions only those over int that stand there. */
    private static void library(String code) {
        String classes = "Math|Integer|Long|System|Arrays|List|String|Character|Double";
        Matcher m = Pattern.compile("\\b(" + classes + ")\\s*\\.\\s*(\\w+)").matcher(code);
        while (m.find()) {
            Checks.yes("rule 4: " + m.group(), m.group(1).equals("Math") && MATH.contains(m.group(2)));
        }
    }

    /** Rule 6: one of the named exceptions, with a written text or none, and none in a constructor. */
    private static void exceptions(String code) {
        Matcher m = Pattern.compile("\\bthrow\\b([^;]*);").matcher(code);
        while (m.find()) {
            Matcher made = Pattern.compile("\\s+new\\s+(\\w+)\\((\"\")?\\)").matcher(m.group(1));
            Checks.yes("rule 6: " + m.group(), made.matches() && THROWN.contains(made.group(1)));
        }
        for (String name : new String[] {"public TideTablePainters", "Pier", "Reports"}) {
            Matcher made = Pattern.compile("\n +" + name + "\\([^)]*\\) \\{([^{}]|\\{[^{}]*\\})*\\}").matcher(code);
            Checks.yes("rule 6: constructor " + name, made.find() && !found(made.group(), "\\bthrow\\b"));
        }
    }

    /** Rule 5: no static state and no static block. */
    private static void staticState(String code) {
        Checks.no("rule 5: a static block", found(code, "\\bstatic\\s*\\{"));
        Matcher m = Pattern.compile("\\bstatic\\b[^;{(]*;|\\bstatic\\b[^;{(]*=[^;]*;").matcher(code);
        while (m.find()) {
            Checks.yes("rule 5: " + m.group(), m.group().matches("static final int \\w+ = [-\\w\\s+*]+;"));
        }
    }

    /** Rule 12: rows are made with the object or with a pier; no other call makes any but its exception. */
    private static void objects(String code) {
        for (String line : code.split("\n")) {
            if (found(line, "\\bnew\\b")) {
                Checks.yes("rule 12: " + line.trim(), found(line, "^\\s+private final \\S+ \\w+ = new ")
                        || found(line, "^\\s+throw new ") || line.trim().startsWith("piers[number] = new Pier(")
                        || line.trim().equals("this.reports = new Reports(trusts);"));
            }
        }
    }

    /** Rule 9: each loop has a bound in its head; the one of paint counts up to its lines. */
    private static void loops(String code) {
        Checks.no("rule 9: no bound", found(code, "\\bwhile\\s*\\(\\s*true|\\bfor\\s*\\(\\s*;|\\bdo\\b"));
        Matcher m = Pattern.compile("\\b(while|for)\\s*\\(([^{]*)\\)\\s*\\{").matcher(code);
        while (m.find()) {
            Checks.yes("rule 9: " + m.group(), found(m.group(2), "<|>="));
        }
    }

    /** Rule 11: methods have some sixty lines at most. */
    private static void lengthOfMethods(String code) {
        String[] lines = code.split("\n");
        int start = -1;
        for (int i = 0; i < lines.length; i++) {
            if (start < 0 && found(lines[i], "^ {4,8}[\\w<].*\\(.*[^;]$") && !found(lines[i], "\\bclass\\b")) {
                start = i;
            }
            if (start >= 0 && lines[i].equals(lines[start].replaceAll("\\S.*", "") + "}")) {
                Checks.yes("rule 11: length of " + lines[start].trim(), i - start < MOST_METHOD_LINES);
                start = -1;
            }
        }
        Checks.same("rule 11: each method has an end", start, -1);
    }

    private static boolean found(String code, String pattern) {
        return Pattern.compile(pattern).matcher(code).find();
    }

    /** Each text becomes an empty one, each comment a blank. */
    private static String withoutCommentsAndTexts(String source) {
        return source.replaceAll("\"[^\"\n]*\"", "\"\"").replaceAll("(?s)/\\*.*?\\*/", " ").replaceAll("//[^\n]*", " ");
    }
}
