import java.io.IOException;
import java.lang.reflect.Constructor;
import java.lang.reflect.Field;
import java.lang.reflect.Method;
import java.lang.reflect.Modifier;
import java.nio.file.Files;
import java.nio.file.Path;
import java.util.ArrayList;
import java.util.Arrays;
import java.util.List;
import java.util.TreeSet;
import java.util.regex.Matcher;
import java.util.regex.Pattern;
import java.util.stream.Collectors;

/** The face is as the document prints it, and the source keeps to what LANGUAGE.md forbids plainly. */
public final class FaceTest {
    private static final Pattern FACE_METHOD =
            Pattern.compile("public (int|long|boolean) (\\w+)\\(([^)]*)\\)( throws ([\\w, ]+))?;");
    private static final Pattern METHOD_START =
            Pattern.compile("^ {4,8}(public |private |static |final )*[\\w\\[\\]]+ (\\w+)\\(([^;]*)\\) *(throws [\\w, ]+)?\\{$");

    private FaceTest() {
    }

    public static void main(String[] args) throws IOException {
        Path here = Path.of(args.length > 0 ? args[0] : ".");
        Path shared = Path.of(args.length > 1 ? args[1] : "../shared");
        Kit.part("the face");
        members(Files.readString(shared.resolve("DOC.md")));
        Kit.part("the language");
        words(Files.readString(here.resolve("src/main/java/CryptBank.java")));
        methods(Files.readAllLines(here.resolve("src/main/java/CryptBank.java")));
        Kit.end();
    }

    private static void members(String document) {
        TreeSet<String> wanted = new TreeSet<>();
        Matcher matcher = FACE_METHOD.matcher(document);
        while (matcher.find()) {
            int numbers = matcher.group(3).isBlank() ? 0 : matcher.group(3).split(",").length;
            String thrown = matcher.group(5) == null ? "" : matcher.group(5).replace(",", "");
            wanted.add(matcher.group(1) + " " + matcher.group(2) + " " + numbers + " of int throws " + thrown);
        }
        TreeSet<String> got = new TreeSet<>();
        for (Method method : CryptBank.class.getDeclaredMethods()) {
            if (Modifier.isPublic(method.getModifiers())) {
                boolean ints = Arrays.stream(method.getParameterTypes()).allMatch(t -> t == int.class);
                String thrown = Arrays.stream(method.getExceptionTypes()).map(Class::getSimpleName)
                        .collect(Collectors.joining(" "));
                got.add(method.getReturnType() + " " + method.getName() + " " + method.getParameterCount()
                        + (ints ? " of int" : " of others") + " throws " + thrown);
            } else {
                Kit.due("private: " + method.getName(), Modifier.isPrivate(method.getModifiers()), true);
            }
        }
        Kit.due("methods " + got + " for " + wanted, got.equals(wanted), true);
        Kit.due("methods", got.size(), 40);
        for (Method method : CryptBank.class.getDeclaredMethods()) {
            boolean named = got.stream().anyMatch(g -> g.contains(" " + method.getName() + " "));
            Kit.due("public or of another name: " + method, named, Modifier.isPublic(method.getModifiers()));
        }
        for (Field field : CryptBank.class.getDeclaredFields()) {
            boolean none = field.getName().equals("NONE");
            Kit.due("field " + field.getName(), none || Modifier.isPrivate(field.getModifiers()), true);
        }
        Constructor<?>[] constructors = CryptBank.class.getDeclaredConstructors();
        Kit.due("constructors", constructors.length, 1);
        Kit.due("class", Modifier.isPublic(CryptBank.class.getModifiers())
                && Modifier.isFinal(CryptBank.class.getModifiers()), true);
        Kit.due("classes", CryptBank.class.getDeclaredClasses().length <= 12, true);
        for (Class<?> inner : CryptBank.class.getDeclaredClasses()) {
            Kit.due("static " + inner, Modifier.isStatic(inner.getModifiers()), true);
            for (Method method : inner.getDeclaredMethods()) {
                Kit.due("no public name: " + method, got.stream().anyMatch(g -> g.contains(" " + method.getName() + " ")),
                        false);
            }
            Kit.due("fields of " + inner, Arrays.stream(inner.getDeclaredFields())
                    .filter(f -> !Modifier.isStatic(f.getModifiers())).count() <= 20, true);
        }
    }

    private static void words(String source) {
        String code = source.replaceAll("(?s)/\\*.*?\\*/", "").replaceAll("//[^\n]*", "");
        for (String word : List.of("catch", "try", "finally", "synchronized", "assert", "package", "Exact", "->", "::",
                "instanceof", "protected", "import static", "java.io", "Random", "System.out", "nanoTime")) {
            String pattern = word.matches("\\w+") && !word.equals("Exact") ? "\\b" + word + "\\b" : Pattern.quote(word);
            Kit.due("'" + word + "' in the source", Pattern.compile(pattern).matcher(code).find(), false);
        }
        Matcher imports = Pattern.compile("(?m)^import (.*);").matcher(code);
        List<String> names = new ArrayList<>();
        while (imports.find()) {
            names.add(imports.group(1));
        }
        Kit.due("imports " + names, names.equals(List.of("java.util.NoSuchElementException")), true);
        Kit.due("signs above 127", code.chars().anyMatch(c -> c > 127), false);
        Matcher statics = Pattern.compile("(?m)^.*\\bstatic\\b(?! final)(?! class).*[=;]$").matcher(code);
        Kit.due("static state", statics.find(), false);
    }

    private static void methods(List<String> lines) {
        int seen = 0;
        for (int i = 0; i < lines.size(); i++) {
            Matcher start = METHOD_START.matcher(lines.get(i));
            if (!start.matches()) {
                continue;
            }
            seen++;
            String indent = lines.get(i).replaceAll("\\S.*", "");
            int end = i;
            while (!lines.get(end).equals(indent + "}")) {
                end++;
            }
            int length = end - i + 1;
            Kit.due("lines of " + start.group(2) + ": " + length, length <= 60, true);
            List<String> given = Arrays.stream(start.group(3).split(",")).filter(p -> !p.isBlank())
                    .collect(Collectors.toList());
            Kit.due("parameters of " + start.group(2), given.size() <= 7 || start.group(2).equals("would"), true);
        }
        Kit.due("methods found: " + seen, seen > 100, true);
    }
}
