import java.io.IOException;
import java.nio.file.Files;
import java.nio.file.Paths;
import java.util.regex.Matcher;
import java.util.regex.Pattern;

/** The answers that README.md tells behind the calls of its example are those of the class. */
final class ReadmeTest {
    private static final Pattern CALL = Pattern.compile("house\\.(.*\\));\\s+// (.*)");
    private static final int LEAST_CALLS = 8;

    public static void main(String[] args) throws IOException {
        AquatintHouse house = new AquatintHouse();
        int calls = 0;
        int wrong = 0;
        for (String line : Files.readAllLines(Paths.get("README.md"))) {
            Matcher matcher = CALL.matcher(line);
            if (line.startsWith("AquatintHouse house = new")) {
                house = new AquatintHouse();
            } else if (matcher.matches()) {
                calls++;
                String told = matcher.group(2);
                String answer = Calls.answer(house, matcher.group(1));
                if (!Calls.isLike(answer, told)) {
                    wrong++;
                    System.out.println(matcher.group(1) + " answered " + answer + ", README.md has " + told);
                }
            }
        }
        System.out.println("ReadmeTest: " + calls + " calls, " + wrong + " wrong");
        System.exit(wrong == 0 && calls >= LEAST_CALLS ? 0 : 1);
    }
}
