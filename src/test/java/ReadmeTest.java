import java.lang.reflect.Method;
import java.nio.charset.StandardCharsets;
import java.nio.file.Files;
import java.nio.file.Path;
import java.util.Set;
import java.util.TreeSet;
import java.util.regex.Matcher;
import java.util.regex.Pattern;

/** That README.md's calls answer what stands beside them, and that it names every call of the face. */
final class ReadmeTest {
    private static final Pattern CALL = Pattern.compile("(?m)^x\\.(\\w+)\\(([-\\d, ]*)\\);\\s*// (-?\\d+):");
    private static final Pattern LIST = Pattern.compile(
        "(?m)^- (?:strips|instruments|playing|editing|what is told): `([a-zA-Z ]+)`$");

    public static void main(String[] args) throws Exception {
        String text = Files.readString(Path.of("README.md"), StandardCharsets.UTF_8);
        example(text);
        names(text);
        Due.end("ReadmeTest");
    }

    private static void example(String text) throws Exception {
        RollPlayer x = new RollPlayer();
        Matcher calls = CALL.matcher(text);
        int n = 0;
        while (calls.find()) {
            n++;
            long got = call(x, calls.group(1), calls.group(2));
            Due.isTrue(got == Long.parseLong(calls.group(3)), calls.group() + " but the answer is " + got);
        }
        long all = text.lines().filter(line -> line.startsWith("x.")).count();
        Due.isTrue(n > 0 && n == all, "of " + all + " calls " + n + " tell their answer");
    }

    private static long call(RollPlayer x, String name, String numbers) throws Exception {
        String[] parts = numbers.isBlank() ? new String[0] : numbers.split(",");
        Object[] given = new Object[parts.length];
        Class<?>[] types = new Class<?>[parts.length];
        for (int i = 0; i < parts.length; i++) {
            given[i] = Integer.valueOf(parts[i].trim());
            types[i] = int.class;
        }
        return ((Number) RollPlayer.class.getMethod(name, types).invoke(x, given)).longValue();
    }

    private static void names(String text) {
        Set<String> named = new TreeSet<>();
        Matcher lists = LIST.matcher(text);
        while (lists.find()) named.addAll(Set.of(lists.group(1).split(" ")));
        Set<String> due = new TreeSet<>();
        for (Method m : RollPlayer.class.getDeclaredMethods()) {
            if (java.lang.reflect.Modifier.isPublic(m.getModifiers())) due.add(m.getName());
        }
        Due.isTrue(named.equals(due), "README.md names " + named);
    }
}
