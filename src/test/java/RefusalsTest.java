import java.io.IOException;
import java.nio.file.Files;
import java.nio.file.Path;
import java.nio.file.Paths;
import java.util.ArrayList;
import java.util.Arrays;
import java.util.LinkedHashMap;
import java.util.LinkedHashSet;
import java.util.List;
import java.util.Map;
import java.util.Set;
import java.util.TreeSet;
import java.util.regex.Matcher;
import java.util.regex.Pattern;
import java.util.stream.Collectors;
import java.util.stream.Stream;

/**
 * Makes the calls told in src/test/refusals: each one in each house, with up to three of its arguments at the ends
 * of their ranges or behind them. Of the exceptions that apply, the one that the document lists first is due, and
 * the house is then as it was; a call to which none applies answers what the model answers.
 *
 * <p>"call f(0, 1)" begins a block; "house", or "house E" for one in which E applies, is followed by the calls that
 * make it, each in a row that is indented; "1 = 0 | 4" are values of the first argument that are let through, "1 E
 * -1 | 5" those for which E applies; "1,2 E 0, 0 | 3, 3" are values of the two together. "never E F" tells that
 * E and F cannot apply together.
 */
final class RefusalsTest {
    private static final int MOST_CHOICES = 3;
    private static final Pattern DECLARED = Pattern.compile("^ {4}public (?:\\w+ )?(\\w+)\\([^;]*?\\)(?: throws ([^;]*))?;$");

    private static final class Choice {
        private List<Integer> places = new ArrayList<>();
        private List<String> values = new ArrayList<>();
        private String thrown;
    }

    private static final class House {
        private final List<String> calls = new ArrayList<>();
        private String thrown;

        @Override
        public String toString() {
            int many = calls.size();
            return many + " calls, the last of them " + calls.subList(Math.max(0, many - 6), many);
        }
    }

    private static final class Block {
        private String name;
        private List<String> arguments;
        private final List<House> houses = new ArrayList<>();
        private final List<Choice> choices = new ArrayList<>();
    }

    private final Map<String, List<String>> order = new LinkedHashMap<>();
    private final Set<String> due = new TreeSet<>();
    private int made;
    private int wrong;

    private AquatintHouse house;
    private String untouched;

    public static void main(String[] args) throws IOException {
        RefusalsTest test = new RefusalsTest();
        test.readOrder();
        Path refusals = Paths.get(args.length > 0 ? args[0] : "src/test/refusals");
        List<Path> files;
        try (Stream<Path> found = Files.list(refusals)) {
            files = found.sorted().collect(Collectors.toList());
        }
        for (Path file : files) {
            for (Block block : test.read(file)) {
                test.run(block);
            }
        }
        for (String missing : test.due) {
            test.tellWrong("no call tells of " + missing);
        }
        System.out.println("RefusalsTest: " + test.made + " calls, " + test.wrong + " wrong");
        System.exit(test.wrong == 0 ? 0 : 1);
    }

    /** Each method's exceptions as the document lists them; each alone, and each two of them, are due in some call. */
    private void readOrder() throws IOException {
        for (String line : Files.readAllLines(Paths.get("../shared/DOC.md"))) {
            Matcher matcher = DECLARED.matcher(line);
            if (matcher.matches()) {
                String listed = matcher.group(2) == null ? "" : matcher.group(2);
                List<String> exceptions = listed.isEmpty() ? List.of() : Arrays.asList(listed.split(", "));
                order.put(matcher.group(1), exceptions);
                due.add(matcher.group(1) + " []");
                for (int i = 0; i < exceptions.size(); i++) {
                    due.add(matcher.group(1) + " [" + exceptions.get(i) + "]");
                    for (int j = i + 1; j < exceptions.size(); j++) {
                        due.add(matcher.group(1) + " [" + exceptions.get(i) + ", " + exceptions.get(j) + "]");
                    }
                }
            }
        }
        due.remove("AquatintHouse []");
        due.remove("isTrue []");
        if (order.size() != 44) {
            tellWrong("read were " + order.size() + " members of the face");
        }
    }

    private List<Block> read(Path file) throws IOException {
        List<Block> blocks = new ArrayList<>();
        Block block = null;
        for (String row : Files.readAllLines(file)) {
            if (row.startsWith("#") || row.trim().isEmpty()) {
                continue;
            }
            if (row.startsWith("call ")) {
                block = new Block();
                block.name = Calls.name(row.substring("call ".length()));
                block.arguments = parts(row.substring(row.indexOf('(') + 1, row.lastIndexOf(')')), ",");
                blocks.add(block);
            } else if (row.startsWith("house")) {
                House house = new House();
                house.thrown = row.equals("house") ? null : row.substring("house ".length()).trim();
                block.houses.add(house);
            } else if (row.startsWith(" ")) {
                block.houses.get(block.houses.size() - 1).calls.addAll(Calls.spread(row.trim()));
            } else if (row.startsWith("never ")) {
                String[] two = row.split(" ");
                due.remove(block.name + " [" + two[1] + ", " + two[2] + "]");
            } else {
                readChoices(block, row.split(" ", 3));
            }
        }
        return blocks;
    }

    private static List<String> parts(String told, String by) {
        List<String> parts = new ArrayList<>();
        for (String part : told.split(by)) {
            if (!part.trim().isEmpty()) {
                parts.add(part.trim());
            }
        }
        return parts;
    }

    private static void readChoices(Block block, String[] row) {
        for (String values : parts(row[2], "\\|")) {
            Choice choice = new Choice();
            for (String place : row[0].split(",")) {
                choice.places.add(Integer.parseInt(place) - 1);
            }
            choice.values = parts(values, ",");
            choice.thrown = row[1].equals("=") ? null : row[1];
            block.choices.add(choice);
        }
    }

    private void run(Block block) {
        for (House in : block.houses) {
            house = null;
            run(block, in, new ArrayList<>(), 0);
        }
    }

    private void run(Block block, House in, List<Choice> chosen, int from) {
        call(block, in, chosen);
        for (int i = from; i < block.choices.size() && chosen.size() < MOST_CHOICES; i++) {
            Choice next = block.choices.get(i);
            if (chosen.stream().noneMatch(other -> other.places.stream().anyMatch(next.places::contains))) {
                chosen.add(next);
                run(block, in, chosen, i + 1);
                chosen.remove(chosen.size() - 1);
            }
        }
    }

    private void call(Block block, House in, List<Choice> chosen) {
        List<String> arguments = new ArrayList<>(block.arguments);
        Set<String> applying = new LinkedHashSet<>();
        for (Choice choice : chosen) {
            for (int i = 0; i < choice.places.size(); i++) {
                arguments.set(choice.places.get(i), choice.values.get(i));
            }
            applying.add(String.valueOf(choice.thrown));
        }
        applying.add(String.valueOf(in.thrown));
        List<String> listed = order.get(block.name).stream().filter(applying::contains).collect(Collectors.toList());
        applying.remove("null");
        if (listed.size() != applying.size()) {
            tellWrong(block.name + " does not list all of " + applying);
        }
        due.remove(block.name + " " + listed);
        String call = block.name + "(" + String.join(", ", arguments) + ")";
        if (listed.isEmpty()) {
            letThrough(in, call);
        } else {
            refuse(in, call, "throws " + listed.get(0));
        }
    }

    private void refuse(House in, String call, String expected) {
        if (house == null) {
            house = new AquatintHouse();
            make(house, in);
            untouched = Snapshot.of(house);
        }
        String answer = Calls.answer(house, call);
        made++;
        if (!answer.equals(expected)) {
            tellWrong(call + " answered " + answer + ", due is " + expected + ", behind " + in);
        }
        if (!Snapshot.of(house).equals(untouched)) {
            tellWrong(call + " changed the house behind " + in);
            house = null;
        }
    }

    private void letThrough(House in, String call) {
        AquatintHouse asked = new AquatintHouse();
        make(asked, in);
        ModelHouse model = new ModelHouse();
        make(model, in);
        String expected = Calls.answer(model, call);
        String answer = Calls.answer(asked, call);
        made++;
        if (!answer.equals(expected) || answer.startsWith("throws")) {
            tellWrong(call + " answered " + answer + ", the model " + expected + ", behind " + in);
        }
    }

    private void make(Object of, House in) {
        for (String call : in.calls) {
            String answer = Calls.answer(of, call);
            if (answer.startsWith("throws")) {
                tellWrong(call + " answered " + answer + " in " + in);
            }
        }
    }

    private void tellWrong(String what) {
        wrong++;
        if (wrong <= 40) {
            System.out.println(what);
        }
    }
}
