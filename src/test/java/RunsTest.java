import java.io.IOException;
import java.nio.file.Files;
import java.nio.file.Path;
import java.nio.file.Paths;
import java.util.ArrayList;
import java.util.List;
import java.util.Set;
import java.util.stream.Collectors;
import java.util.stream.Stream;

/**
 * Runs the calls in src/test/runs: a file for each promise, and one for the bounds of each paragraph of 'Terms'.
 * "new" begins a new object, "#" a remark; "5 times: a(); b()" makes calls that must only not throw. Behind a call
 * that throws, the whole house must be as it is without that call; a question changes nothing either.
 */
final class RunsTest {
    private static final int PROMISES = 44;
    private static final int MOST_CALLS = 512;
    private static final Set<String> QUESTIONS = Set.of("cell", "pulls", "state", "of", "dark", "colour", "entered",
        "number", "isCancelled", "isRestrike", "markAt", "isCopy", "mayBe", "bound", "surely", "isSurely", "price",
        "enteredShare", "meanDepth", "checksum", "isTrue");
    private static final List<String> PROBES = probes();
    private static final List<String> CHANGING_PROBES = changingProbes();

    private int wrong;
    private int checked;

    public static void main(String[] args) throws IOException {
        RunsTest test = new RunsTest();
        Path runs = Paths.get(args.length > 0 ? args[0] : "src/test/runs");
        for (int i = 1; i <= PROMISES; i++) {
            Path file = runs.resolve(String.format("promise-%02d.txt", i));
            if (!Files.exists(file)) {
                test.tellWrong(file + " is missing");
            }
        }
        List<Path> files;
        try (Stream<Path> found = Files.list(runs)) {
            files = found.sorted().collect(Collectors.toList());
        }
        for (Path file : files) {
            test.runFile(file);
        }
        System.out.println("RunsTest: " + test.checked + " answers, " + test.wrong + " wrong");
        System.exit(test.wrong == 0 ? 0 : 1);
    }

    private void runFile(Path file) throws IOException {
        List<String> rows = new ArrayList<>();
        int line = 0;
        for (String raw : Files.readAllLines(file)) {
            line++;
            String row = raw.contains("#") ? raw.substring(0, raw.indexOf('#')).trim() : raw.trim();
            if (row.equals("new")) {
                runRows(file + " before line " + line, rows);
                rows.clear();
            } else if (!row.isEmpty()) {
                rows.addAll(Calls.spread(row));
            }
        }
        runRows(file + " at its end", rows);
    }

    private void runRows(String where, List<String> rows) {
        if (rows.size() > MOST_CALLS) {
            tellWrong(where + ": more calls than an object is used for");
        }
        AquatintHouse house = new AquatintHouse();
        for (int i = 0; i < rows.size(); i++) {
            String[] parts = rows.get(i).split(" = ");
            String before = Snapshot.of(house);
            String answer = Calls.answer(house, parts[0]);
            checked++;
            boolean mayChange = !QUESTIONS.contains(Calls.name(parts[0])) && !answer.startsWith("throws");
            if (!mayChange && !before.equals(Snapshot.of(house))) {
                tellWrong(where + ": " + rows.get(i) + " changed the house");
            }
            if (parts.length < 2 && answer.startsWith("throws")) {
                tellWrong(where + ": " + parts[0] + " answered " + answer);
            }
            if (parts.length == 2 && !Calls.isLike(answer, parts[1].trim())) {
                tellWrong(where + ": " + parts[0] + " answered " + answer + ", due is " + parts[1].trim());
            }
            if (answer.startsWith("throws")) {
                compareWithout(where, rows, i);
            }
        }
    }

    private void compareWithout(String where, List<String> rows, int i) {
        List<String> before = rows.subList(0, i);
        List<String> behind = rows.subList(0, i + 1);
        int lot = Math.max(8, MOST_CALLS - behind.size());
        for (int from = 0; from < PROBES.size(); from += lot) {
            List<String> probes = PROBES.subList(from, Math.min(PROBES.size(), from + lot));
            compare(where + ": " + rows.get(i), before, behind, probes);
        }
        compare(where + ": " + rows.get(i), before, behind, CHANGING_PROBES);
    }

    /** Makes the runs anew for these probes, for an object answers no more calls than it is promised to. */
    private void compare(String where, List<String> before, List<String> behind, List<String> probes) {
        AquatintHouse without = houseAfter(before);
        AquatintHouse with = houseAfter(behind);
        for (String probe : probes) {
            String due = Calls.answer(without, probe);
            String answer = Calls.answer(with, probe);
            if (!answer.equals(due)) {
                tellWrong(where + " changed " + probe + " from " + due + " to " + answer);
                return;
            }
        }
    }

    private static AquatintHouse houseAfter(List<String> rows) {
        AquatintHouse house = new AquatintHouse();
        for (String row : rows) {
            Calls.answer(house, row.split(" = ")[0]);
        }
        return house;
    }

    private void tellWrong(String what) {
        wrong++;
        System.out.println(what);
    }

    private static List<String> probes() {
        List<String> probes = new ArrayList<>();
        for (int plate = 0; plate < 5; plate++) {
            for (String name : new String[] {"pulls", "state", "isCancelled", "isCopy", "meanDepth", "checksum"}) {
                probes.add(name + "(" + plate + ")");
            }
            for (int cell = 0; cell < 64; cell++) {
                for (char what : "dbtic".toCharArray()) {
                    probes.add("cell(" + plate + ", " + cell % 8 + ", " + cell / 8 + ", '" + what + "')");
                }
            }
        }
        for (int sheet : new int[] {0, 1, 2, 3, 4, 5, 59}) {
            addSheetProbes(probes, sheet);
        }
        for (int edition = 0; edition < 4; edition++) {
            for (char kind : "eat".toCharArray()) {
                probes.add("entered(" + edition + ", '" + kind + "')");
            }
        }
        probes.add("enteredShare()");
        probes.add("isTrue()");
        return probes;
    }

    private static void addSheetProbes(List<String> probes, int sheet) {
        for (char what : "pnskroml".toCharArray()) {
            probes.add("of(" + sheet + ", '" + what + "')");
        }
        for (int cell = 0; cell < 64; cell++) {
            probes.add("dark(" + sheet + ", " + cell % 8 + ", " + cell / 8 + ")");
            probes.add("colour(" + sheet + ", " + cell % 8 + ", " + cell / 8 + ")");
        }
        for (int plate = 0; plate < 5; plate++) {
            probes.add("mayBe(" + sheet + ", " + plate + ")");
            probes.add("bound(" + sheet + ", " + plate + ", false)");
            probes.add("bound(" + sheet + ", " + plate + ", true)");
            probes.add("surely(" + sheet + ", " + plate + ")");
            probes.add("isSurely(" + sheet + ", " + plate + ")");
        }
        for (int mark = 0; mark < 5; mark++) {
            probes.add("markAt(" + sheet + ", " + mark + ")");
        }
        for (String name : new String[] {"number", "isRestrike", "price"}) {
            probes.add(name + "(" + sheet + ")");
        }
    }

    /** What no call only tells: the ink, faces, baths, the press, z and the next numbers. */
    private static List<String> changingProbes() {
        List<String> probes = new ArrayList<>();
        for (int plate = 0; plate < 5; plate++) {
            probes.add("pull(" + plate + ", 1, 0, 9)");
            probes.add("bite(" + plate + ", 0, 9)");
            probes.add("bite(" + plate + ", 1, 9)");
            probes.add("bite(" + plate + ", 2, 9)");
            probes.add("checksum(" + plate + ")");
        }
        for (int i = 0; i < 6; i++) {
            for (int cell = 0; cell < 4; cell++) {
                probes.add("dark(" + i + ", " + cell % 2 + ", " + cell / 2 + ")");
                probes.add("colour(" + i + ", " + cell % 2 + ", " + cell / 2 + ")");
            }
        }
        for (int i = 0; i < 4; i++) {
            probes.add("face(" + i + ", false)");
            probes.add("edition(" + i + ", 1)");
            probes.add("close(" + i + ")");
            probes.add("bath(" + i + ", 1, 1)");
        }
        probes.add("press(1)");
        probes.add("seed(1)");
        probes.add("plate('z', 2, 2)");
        probes.add("isTrue()");
        return probes;
    }
}
