import java.io.IOException;
import java.nio.file.Files;
import java.nio.file.Path;
import java.util.ArrayList;
import java.util.List;
import java.util.regex.Matcher;
import java.util.regex.Pattern;

/** The groups of methods, as the document tells them: "Ahead of the calls `a`, `b` the interface says: ---- words." */
final class Groups {
    private static final Pattern AHEAD = Pattern.compile("^Ahead of the calls (.*) the interface says: ---- (.*)[.]$");
    private static final Pattern NAME = Pattern.compile("`(\\w+)`");

    private Groups() {
    }

    /** Each group's words, and behind them the names of its methods. */
    static List<List<String>> ofTheDocument() throws IOException {
        List<List<String>> groups = new ArrayList<>();
        for (String line : Files.readAllLines(Path.of("../shared/DOC.md"))) {
            Matcher ahead = AHEAD.matcher(line);
            if (ahead.matches()) {
                List<String> group = new ArrayList<>(List.of(ahead.group(2)));
                Matcher name = NAME.matcher(ahead.group(1));
                while (name.find()) {
                    group.add(name.group(1));
                }
                groups.add(group);
            }
        }
        return groups;
    }

    /** The same, read from a text in which one pattern finds a group's words and the other a method's name. */
    static List<List<String>> of(Path file, String wordsPattern, String namePattern) throws IOException {
        Pattern words = Pattern.compile(wordsPattern);
        Pattern name = Pattern.compile(namePattern);
        List<List<String>> groups = new ArrayList<>();
        for (String line : Files.readAllLines(file)) {
            Matcher found = words.matcher(line);
            if (found.find()) {
                groups.add(new ArrayList<>(List.of(found.group(1))));
            }
            Matcher method = name.matcher(line);
            if (method.find() && !groups.isEmpty()) {
                groups.get(groups.size() - 1).add(method.group(1));
            }
        }
        groups.removeIf(group -> group.size() == 1);
        return groups;
    }
}
