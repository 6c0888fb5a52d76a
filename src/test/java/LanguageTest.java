import java.nio.charset.StandardCharsets;
import java.nio.file.Files;
import java.nio.file.Path;
import java.util.ArrayList;
import java.util.HashMap;
import java.util.HashSet;
import java.util.List;
import java.util.Map;
import java.util.Set;
import java.util.regex.Matcher;
import java.util.regex.Pattern;

/** Reads the class's source and looks for what ../shared/LANGUAGE.md rules out; it runs at the project's root. */
public final class LanguageTest {
    private static final Pattern METHOD = Pattern.compile(
            "^ {4,8}((?:public |private |static |final |abstract )*)(?:([a-zA-Z\\[\\]]+) )?([a-zA-Z]+)\\(([^()]*)\\) \\{$");
    private static final Pattern CALL = Pattern.compile("\\b([a-zA-Z]+)\\(");
    private static final Set<String> LIBRARY = Set.of("System.arraycopy", "Arrays.fill", "Math.min", "Math.max",
            "Integer.bitCount");
    private static int wrong;

    private static void refuse(int rule, int line, String why) {
        wrong++;
        System.out.println("rule " + rule + ", line " + (line + 1) + ": " + why);
    }

    public static void main(String[] args) throws Exception {
        Path path = Path.of("src/main/java/AvalancheInn.java");
        List<String> lines = bare(Files.readString(path, StandardCharsets.UTF_8));
        words(lines);
        statics(lines);
        methods(lines);
        classes(lines);
        System.out.println(wrong == 0 ? "the language is kept" : wrong + " places outside the language");
        if (wrong != 0) {
            System.exit(1);
        }
    }

    /** The lines without comments and without what stands within quotes. */
    private static List<String> bare(String source) {
        String text = Pattern.compile("/\\*.*?\\*/", Pattern.DOTALL).matcher(source)
                .replaceAll(match -> match.group().replaceAll("[^\n]", ""));
        text = text.replaceAll("\"[^\"\n]*\"", "\"\"").replaceAll("'(\\\\.|[^'\\\\])'", "' '");
        List<String> lines = new ArrayList<>();
        for (String line : text.split("\n")) {
            lines.add(line.replaceAll("//.*", ""));
        }
        return lines;
    }

    private static void words(List<String> lines) {
        Pattern banned = Pattern.compile("\\b(throw|throws|try|catch|finally|synchronized|assert|protected|package|native"
                + "|volatile|transient|Object|Thread|Random|Exact|var|double|float|hashCode|toString)\\b");
        Pattern call = Pattern.compile("\\b([A-Z][a-z]+[A-Za-z]*)\\.([a-z][A-Za-z]*)\\(");
        for (int i = 0; i < lines.size(); i++) {
            String line = lines.get(i);
            Matcher word = banned.matcher(line);
            if (word.find()) {
                refuse(6, i, word.group());
            }
            if (line.contains("->") && !line.trim().startsWith("case ") && !line.trim().startsWith("default ->")) {
                refuse(2, i, "a lambda");
            }
            if (line.contains("::") || line.contains("\" +") || line.contains("+ \"")) {
                refuse(10, i, line.trim());
            }
            if (line.startsWith("import ") && !line.equals("import java.util.Arrays;")) {
                refuse(4, i, line);
            }
            Matcher library = call.matcher(line);
            while (library.find()) {
                if (!LIBRARY.contains(library.group(1) + "." + library.group(2))) {
                    refuse(4, i, library.group());
                }
            }
        }
    }

    private static void statics(List<String> lines) {
        for (int i = 0; i < lines.size(); i++) {
            String line = lines.get(i).trim();
            boolean field = line.contains("static") && line.endsWith(";");
            if (field && !line.matches("((public|private) )?static final (int|String) [A-Z_]+ = .*;")) {
                refuse(5, i, line);
            }
            if (line.startsWith("static {")) {
                refuse(5, i, "a static block");
            }
        }
    }

    private static void methods(List<String> lines) {
        Set<String> face = new HashSet<>();
        List<String> others = new ArrayList<>();
        Map<String, Set<String>> calls = new HashMap<>();
        int found = 0;
        for (int i = 0; i < lines.size(); i++) {
            Matcher method = METHOD.matcher(lines.get(i));
            if (!method.matches() || Set.of("if", "for", "while", "switch").contains(method.group(3))) {
                continue;
            }
            found++;
            boolean inner = lines.get(i).startsWith("        ");
            boolean maker = method.group(2) == null;
            if (method.group(1).startsWith("public") && !inner) {
                face.add(method.group(3));
            } else {
                others.add(method.group(3));
                if (!inner && !method.group(1).startsWith("private")) {
                    refuse(1, i, "neither public nor private: " + method.group(3));
                }
            }
            int params = method.group(4).isBlank() ? 0 : method.group(4).split(",").length;
            if (params > 7) {
                refuse(11, i, params + " parameters");
            }
            String name = method.group(3);
            if (calls.put(name, new HashSet<>()) != null) {
                refuse(11, i, "a name borne twice, so that depths can't be told: " + name);
            }
            int end = i;
            String close = (inner ? "        " : "    ") + "}";
            while (!lines.get(end).equals(close)) {
                end++;
                Matcher call = CALL.matcher(lines.get(end));
                while (call.find()) {
                    calls.get(name).add(call.group(1));
                }
                if (!maker && lines.get(end).matches(".*\\bnew\\b.*")) {
                    refuse(12, end, "an object made in a call");
                }
            }
            if (end - i > 60) {
                refuse(11, i, (end - i) + " lines");
            }
        }
        for (String name : face) {
            int depth = depth(calls, name, new ArrayList<>());
            if (depth > 8) {
                refuse(11, 0, name + " goes " + depth + " deep");
            }
        }
        for (String name : others) {
            if (face.contains(name)) {
                refuse(1, 0, "the name of a public method: " + name);
            }
        }
        if (face.size() != 52 || found < 150) {
            refuse(1, 0, face.size() + " public names, " + found + " methods in all");
        }
    }

    /** How deep calls go from a method, itself counted; a call of one that stands open is recursion. */
    private static int depth(Map<String, Set<String>> calls, String name, List<String> open) {
        if (!calls.containsKey(name) || open.contains(name)) {
            return 0;
        }
        open.add(name);
        int deepest = 0;
        for (String called : calls.get(name)) {
            deepest = Math.max(deepest, depth(calls, called, open));
        }
        open.remove(name);
        return deepest + 1;
    }

    private static void classes(List<String> lines) {
        int classes = 0;
        int fields = 0;
        for (int i = 0; i < lines.size(); i++) {
            String line = lines.get(i);
            if (line.matches(".*\\bclass\\b.*")) {
                classes++;
                fields = 0;
                boolean outer = line.equals("public final class AvalancheInn {");
                if (!outer && !line.startsWith("    private static final class ")) {
                    refuse(2, i, line.trim());
                }
            }
            String indent = classes > 1 ? "        " : "    ";
            boolean field = line.matches(indent + "(private |final )*[A-Za-z]+(\\[\\])* [a-zA-Z]+( = .*)?;");
            if (field && !line.trim().startsWith("return")) {
                fields++;
            }
            if (fields > 20) {
                refuse(11, i, "too many fields");
                fields = 0;
            }
        }
        if (classes > 12) {
            refuse(11, 0, classes + " classes");
        }
    }
}
