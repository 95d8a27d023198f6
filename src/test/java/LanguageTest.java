import java.io.IOException;
import java.lang.reflect.Constructor;
import java.lang.reflect.Field;
import java.lang.reflect.Method;
import java.lang.reflect.Modifier;
import java.nio.file.Files;
import java.nio.file.Path;
import java.util.ArrayList;
import java.util.Arrays;
import java.util.HashMap;
import java.util.HashSet;
import java.util.LinkedHashMap;
import java.util.LinkedHashSet;
import java.util.List;
import java.util.Map;
import java.util.Set;
import java.util.TreeSet;
import java.util.regex.Matcher;
import java.util.regex.Pattern;

/** The public face, and what of LANGUAGE.md can be seen from the class and its source. */
public final class LanguageTest {
    private static final String[] FACE = {
        "int feed(int,int,int,int,int)", "int end(int)", "int protocol()", "int shelf()", "int fault()", "int lines(int,int)",
        "int have()", "int make()", "int same()", "int clear()", "int prove(int,int,int)", "int weakest(int)",
        "long share(int,int,int,int,int)", "int found(int)", "int course(int,int)", "int last(int,int,int)", "int fill(int)",
        "int filled(int)", "long luck(int,int,int)", "int vouch(int,int,int,int,int)", "int back(int,int)",
        "int sure(int,int,int,int)", "int hangs(int,int,int)", "int rules(int,int)", "int come(int)", "int go(int)",
        "int group(int,int)", "int image(int)", "int restore(int)", "int count(int)", "int status()"};
    private static final String SOURCE = "src/main/java/HandShakes.java";
    private static int wrong = 0;

    private LanguageTest() {
    }

    public static void main(String[] args) throws IOException {
        List<Class<?>> all = new ArrayList<>();
        all.add(HandShakes.class);
        all.addAll(Arrays.asList(HandShakes.class.getDeclaredClasses()));
        face();
        inside(all);
        String text = Files.readString(Path.of(SOURCE));
        source(bare(text));
        lengths(text);
        depths(bare(text));
        System.out.println(wrong == 0 ? "the language is kept" : wrong + " rules are broken");
        if (wrong != 0) {
            System.exit(1);
        }
    }

    private static void must(boolean holds, String what) {
        if (!holds) {
            wrong++;
            System.out.println(what);
        }
    }

    private static String shape(Method method) {
        StringBuilder text = new StringBuilder(method.getReturnType().getName()).append(' ').append(method.getName()).append('(');
        for (Class<?> type : method.getParameterTypes()) {
            text.append(text.charAt(text.length() - 1) == '(' ? "" : ",").append(type.getName());
        }
        return text.append(')').toString();
    }

    private static void face() {
        int mods = HandShakes.class.getModifiers();
        must(Modifier.isPublic(mods) && Modifier.isFinal(mods), "rule 1: the class is public and final");
        Set<String> seen = new TreeSet<>();
        for (Method method : HandShakes.class.getDeclaredMethods()) {
            if (!Modifier.isPrivate(method.getModifiers())) {
                must(Modifier.isPublic(method.getModifiers()), "rule 1: visible member " + method);
                must(!Modifier.isStatic(method.getModifiers()), "rule 1: static face " + method);
                seen.add(shape(method));
            }
        }
        must(seen.equals(new TreeSet<>(Arrays.asList(FACE))), "rule 1: the face is " + seen);
        for (Field field : HandShakes.class.getDeclaredFields()) {
            must(Modifier.isPrivate(field.getModifiers()) || field.getName().equals("NONE"), "rule 1: visible field " + field);
        }
        Constructor<?>[] makers = HandShakes.class.getDeclaredConstructors();
        must(makers.length == 1 && Modifier.isPublic(makers[0].getModifiers()) && makers[0].getParameterCount() == 0,
                "rule 1: the constructor");
    }

    private static void inside(List<Class<?>> all) {
        must(all.size() <= 12, "rule 11: classes " + all.size());
        Set<String> faceNames = new HashSet<>();
        for (String one : FACE) {
            faceNames.add(one.substring(one.indexOf(' ') + 1, one.indexOf('(')));
        }
        for (Class<?> type : all) {
            boolean outer = type == HandShakes.class;
            must(outer || Modifier.isStatic(type.getModifiers()), "rule 2: not static " + type);
            must(outer || !Modifier.isPublic(type.getModifiers()), "rule 1: visible " + type);
            int fields = 0;
            for (Field field : type.getDeclaredFields()) {
                boolean constant = Modifier.isStatic(field.getModifiers());
                fields += constant ? 0 : 1;
                must(!constant || Modifier.isFinal(field.getModifiers()), "rule 5: " + field);
                must(!constant || field.getType().isPrimitive(), "rule 5: " + field);
            }
            must(fields <= 20, "rule 11: fields of " + type + ": " + fields);
            for (Method method : type.getDeclaredMethods()) {
                must(method.getParameterCount() <= 7, "rule 11: " + method);
                boolean open = outer && Modifier.isPublic(method.getModifiers());
                must(open || !faceNames.contains(method.getName()), "rule 1: bears a public name " + method);
            }
        }
    }

    /** The source without comments, texts and signs. */
    private static String bare(String text) {
        return text.replaceAll("(?s)/\\*.*?\\*/", " ").replaceAll("//[^\n]*", " ")
                .replaceAll("\"[^\"\n]*\"", "TEXT").replaceAll("'[^'\n]'", "SIGN");
    }

    private static void source(String text) {
        String[] words = {"throw", "throws", "try", "catch", "finally", "synchronized", "assert", "package", "volatile", "transient",
            "native", "hashCode", "equals", "toString", "getClass", "System.out", "System.err", "System.nanoTime",
            "currentTimeMillis", "Thread", "Random", "Exact", "double", "float", "var", "yield", "instanceof"};
        for (String word : words) {
            must(!Pattern.compile("\\b" + Pattern.quote(word) + "\\b").matcher(text).find(), "forbidden word " + word);
        }
        must(!text.contains("->") && !text.contains("::"), "rule 2: lambda, method reference");
        must(!text.contains("@"), "no annotations");
        Matcher imports = Pattern.compile("import ([^;]*);").matcher(text);
        while (imports.find()) {
            must(imports.group(1).equals("java.util.Arrays"), "rule 4: import " + imports.group(1));
        }
        Matcher library = Pattern.compile("\\b(Arrays|System|Integer|Long|Math|String|List|ArrayList)\\.(\\w+)").matcher(text);
        Set<String> allowed = Set.of("Arrays.fill", "System.arraycopy", "Integer.bitCount",
                "Integer.numberOfTrailingZeros", "Math.min", "Math.max");
        while (library.find()) {
            must(allowed.contains(library.group()) || library.group().equals("util.Arrays"), "rule 4: " + library.group());
        }
        must(!Pattern.compile("TEXT\\s*\\+|\\+\\s*TEXT").matcher(text).find(), "rule 10: texts joined by +");
        must(!Pattern.compile("while\\s*\\(true\\)|for\\s*\\(;;\\)").matcher(text).find(), "rule 9: a loop without an end");
        must(text.chars().allMatch(sign -> sign < 128), "signs above 127");
    }

    /** A method's head ends with "{" at a depth of one or two; it ends with "}" at the same depth. */
    private static void lengths(String text) {
        String[] lines = text.split("\n");
        for (int i = 0; i < lines.length; i++) {
            Matcher head = Pattern.compile("^( {4}| {8})[A-Za-z].*\\) \\{$").matcher(lines[i]);
            if (!head.matches() || lines[i].trim().matches("(if|for|while|switch|else|do)\\b.*")) {
                continue;
            }
            for (int k = i; k < lines.length; k++) {
                if (lines[k].equals(head.group(1) + "}")) {
                    must(k - i < 60, "rule 11: " + (k - i + 1) + " lines: " + lines[i].trim());
                    break;
                }
            }
        }
    }

    /** Each method, as class and name, with those that it calls by their names. */
    private static Map<String, Set<String>> calls(String text) {
        Map<String, Set<String>> bodies = new LinkedHashMap<>();
        String type = "";
        String method = "";
        String end = "";
        for (String line : text.split("\n")) {
            Matcher opened = Pattern.compile("^(?: {4})?(?:public|private static) final class (\\w+) \\{$").matcher(line);
            Matcher head = Pattern.compile("^( {4}| {8})(?:[a-zA-Z][\\w\\[\\] ]* )?(\\w+)\\([\\w\\[\\], ]*\\) \\{$").matcher(line);
            if (opened.matches()) {
                type = opened.group(1);
            } else if (head.matches() && method.isEmpty()) {
                method = type + "." + head.group(2);
                end = head.group(1) + "}";
                bodies.putIfAbsent(method, new LinkedHashSet<>());
            } else if (line.equals(end)) {
                method = "";
            } else if (!method.isEmpty()) {
                Matcher call = Pattern.compile("(?:(\\w+)(?:\\(\\))?\\.)?\\b(\\w+)\\(").matcher(line);
                while (call.find()) {
                    bodies.get(method).add((call.group(1) == null ? "this" : call.group(1)) + "." + call.group(2));
                }
            }
        }
        return bodies;
    }

    /** A name may be of several classes in several methods: a call by it is then one of each of them that has the method. */
    private static Map<String, Set<String>> resolved(String text) {
        Map<String, Set<String>> types = new HashMap<>();
        Matcher named = Pattern.compile("\\b([A-Z]\\w+)(?:\\[\\])? (\\w+)(?=[,;)(]| =| :)").matcher(text);
        while (named.find()) {
            types.computeIfAbsent(named.group(2), name -> new HashSet<>()).add(named.group(1));
        }
        Map<String, Set<String>> written = calls(text);
        Map<String, Set<String>> all = new LinkedHashMap<>();
        written.forEach((from, to) -> {
            Set<String> found = all.computeIfAbsent(from, name -> new LinkedHashSet<>());
            for (String call : to) {
                String receiver = call.substring(0, call.indexOf('.'));
                String name = call.substring(call.indexOf('.') + 1);
                String own = from.substring(0, from.indexOf('.'));
                Set<String> owners = receiver.equals("this") ? Set.of(written.containsKey(own + "." + name) ? own : "HandShakes")
                        : types.getOrDefault(receiver, Set.of(receiver));
                owners.stream().map(owner -> owner + "." + name).filter(written::containsKey).forEach(found::add);
            }
        });
        return all;
    }

    private static int deepest(Map<String, Set<String>> calls, List<String> open, List<String> longest) {
        if (open.size() > longest.size()) {
            longest.clear();
            longest.addAll(open);
        }
        for (String to : calls.get(open.get(open.size() - 1))) {
            if (!open.contains(to)) {
                open.add(to);
                deepest(calls, open, longest);
                open.remove(open.size() - 1);
            }
        }
        return longest.size();
    }

    /** Methods that call one another are counted once each: their levels are rule 8's. */
    private static void depths(String text) {
        Map<String, Set<String>> calls = resolved(text);
        must(calls.size() > 100 && calls.get("Play.instance").contains("Terms.raise"), "calls can't be read: " + calls.size());
        for (String one : FACE) {
            List<String> longest = new ArrayList<>();
            String from = "HandShakes." + one.substring(one.indexOf(' ') + 1, one.indexOf('('));
            int depth = deepest(calls, new ArrayList<>(List.of(from)), longest);
            must(depth <= 8, "rule 11: " + depth + " calls deep: " + longest);
        }
    }
}
