import java.lang.reflect.InvocationTargetException;
import java.lang.reflect.Method;
import java.nio.charset.StandardCharsets;
import java.nio.file.Files;
import java.nio.file.Path;
import java.util.ArrayList;
import java.util.List;
import java.util.NoSuchElementException;
import java.util.regex.Matcher;
import java.util.regex.Pattern;

/** Each call of README.md's examples answers what the page says behind it. */
final class ReadmeTest {
    private static final Pattern CALL = Pattern.compile("x\\.(\\w+)\\(([^)]*)\\); +// (-?\\d+|true|false|throws \\w+): .*");
    private static final Pattern PUT = Pattern.compile("put\\(x, \"(.*)\"\\);");

    public static void main(String[] args) throws Exception {
        String page = Files.readString(Path.of("README.md"), StandardCharsets.US_ASCII);
        function(page);
        examples(page);
        Kit.end();
    }

    /** The function of the page is the one by which this test puts its texts. */
    private static void function(String page) throws Exception {
        String source = Files.readString(Path.of("src/test/java/ReadmeTest.java"), StandardCharsets.US_ASCII);
        int from = page.indexOf("static void put(");
        int to = page.indexOf("\n}\n", from);
        Kit.due("README.md has put()", true, from > 0 && to > from);
        String own = ("    " + page.substring(from, to + 2)).replace("\n", "\n    ");
        Kit.due("README.md's put() is that of its test", true, source.contains(own));
    }

    static void put(HungerDays x, String text) {
        int had = x.count(5);
        for (int i = 0; i < text.length(); i += 20) {
            int[] five = new int[5];
            for (int k = 0; k < 20; k++) {
                five[k / 4] = five[k / 4] << 8 | (i + k < text.length() ? text.charAt(i + k) : 0);
            }
            x.feed(five[0], five[1], five[2], five[3], five[4]);
        }
        x.end(had + text.length());
    }

    private static void examples(String page) throws Exception {
        HungerDays x = null;
        boolean inExample = false;
        int calls = 0;
        for (String line : page.split("\n")) {
            Matcher call = CALL.matcher(line);
            Matcher text = PUT.matcher(line);
            if (line.equals("HungerDays x = new HungerDays();")) {
                x = new HungerDays();
                inExample = true;
            } else if (line.equals("```")) {
                inExample = false;
            } else if (inExample && text.matches()) {
                put(x, plain(text.group(1)));
            } else if (inExample) {
                boolean asTold = call.matches() && call.group(3).equals(answer(x, call.group(1), call.group(2)));
                Kit.due("README.md's " + line, true, asTold);
                calls++;
            }
        }
        Kit.due("README.md has examples", true, calls > 40);
    }

    /** The escapes of three octal digits that the page uses. */
    private static String plain(String text) {
        Matcher escape = Pattern.compile("\\\\([0-3][0-7][0-7])").matcher(text);
        return escape.replaceAll(found -> String.valueOf((char) Integer.parseInt(found.group(1), 8)));
    }

    private static String answer(HungerDays x, String name, String told) throws Exception {
        List<Object> numbers = new ArrayList<>();
        for (String one : told.isEmpty() ? new String[0] : told.split(", *")) {
            numbers.add(Integer.decode(one));
        }
        for (Method method : HungerDays.class.getMethods()) {
            if (method.getName().equals(name) && method.getParameterCount() == numbers.size()) {
                return answer(x, method, numbers.toArray());
            }
        }
        return "no call " + name;
    }

    private static String answer(HungerDays x, Method method, Object[] numbers) throws Exception {
        try {
            return String.valueOf(method.invoke(x, numbers));
        } catch (InvocationTargetException e) {
            return e.getCause() instanceof NoSuchElementException ? "throws NoSuchElementException" : e.toString();
        }
    }
}
