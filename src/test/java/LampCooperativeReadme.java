import java.io.IOException;
import java.lang.reflect.Method;
import java.lang.reflect.Modifier;
import java.nio.file.Files;
import java.nio.file.Path;
import java.util.ArrayList;
import java.util.List;
import java.util.Set;
import java.util.TreeSet;
import java.util.function.Supplier;
import java.util.regex.Matcher;
import java.util.regex.Pattern;

/** What README.md tells of the class is so: its example, line by line, and its list of the calls. */
public final class LampCooperativeReadme extends CooperativeTest {
    /** Where no answer is told. */
    private static final String NO_ANSWER = "";

    private final List<String> example = new ArrayList<>();
    private int line = 0;

    private LampCooperativeReadme(String readme) {
        int start = readme.indexOf("```java\n") + "```java\n".length();
        for (String each : readme.substring(start, readme.indexOf("```", start)).split("\n")) {
            example.add(each.trim());
        }
    }

    private void step(String code, Supplier<Object> call) {
        String[] parts = (line < example.size() ? example.get(line) : "").split(" *// *");
        line++;
        due("line " + line + " of the example", parts[0], code);
        due(code, outcome(call), parts.length == 1 ? NO_ANSWER : parts[1].replaceFirst("\\W.*", ""));
    }

    private static String outcome(Supplier<Object> call) {
        try {
            return String.valueOf(call.get());
        } catch (RuntimeException e) {
            return e.getClass().getSimpleName();
        }
    }

    private void example() {
        LampCooperative x = new LampCooperative();
        step("LampCooperative x = new LampCooperative();", () -> NO_ANSWER);
        step("x.addLamp(0, 3);", () -> x.addLamp(0, 3));
        step("x.addLamp(2, 1);", () -> x.addLamp(2, 1));
        step("x.deliverOil(20);", () -> x.deliverOil(20));
        due("the oil of the first lamp", x.oilOf(0), 15);
        due("the oil of the second lamp", x.oilOf(1), 5);
        step("x.donateWicks(10);", () -> x.donateWicks(10));
        step("x.giveWick(0, 4);", () -> x.giveWick(0, 4));
        step("x.burnNight();", x::burnNight);
        step("x.payDividend();", x::payDividend);
        due("the coins of the second lamp", x.balanceOf(1), 2);
        step("x.balanceOf(0);", () -> x.balanceOf(0));
        step("for (char c : \"bright 0 2;night\".toCharArray()) {", () -> NO_ANSWER);
        type(x, "bright 0 2;night");
        step("x.type(c);", () -> NO_ANSWER);
        step("}", () -> NO_ANSWER);
        step("x.execute();", x::execute);
        step("x.undo();", x::undo);
        String before = view(x);
        step("x.setBrightness(0, 6);", () -> x.setBrightness(0, 6));
        due("the state after a refused call", view(x), before);
        due("the lines of the example", example.size(), line);
    }

    /** Each public method stands in the list once, and nothing else does. */
    private static void calls(String readme) {
        Set<String> named = new TreeSet<>();
        int start = readme.indexOf("- Lamps:");
        Matcher names = Pattern.compile("`(\\w+)`").matcher(readme.substring(start, readme.indexOf("\n\n", start)));
        while (names.find()) {
            due("a second " + names.group(1), named.add(names.group(1)), true);
        }
        Set<String> calls = new TreeSet<>();
        for (Method method : LampCooperative.class.getDeclaredMethods()) {
            if (Modifier.isPublic(method.getModifiers())) {
                calls.add(method.getName());
            }
        }
        due("the list of the calls", named, calls);
    }

    public static void main(String[] args) throws IOException {
        String readme = Files.readString(Path.of("README.md"));
        check("README.md, the example", () -> new LampCooperativeReadme(readme).example());
        check("README.md, the list", () -> calls(readme));
        finish("README.md tells what is so");
    }
}
