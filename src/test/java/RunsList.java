import java.io.IOException;
import java.nio.charset.StandardCharsets;
import java.nio.file.Files;
import java.nio.file.Path;
import java.util.ArrayList;
import java.util.List;
import java.util.regex.Matcher;
import java.util.regex.Pattern;

/**
 * Compares what ../shared/tests/MotionRigRuns.java complains of with the list of those of its rows whose due
 * answers the document rules out. Arguments: the list, the document, the output of the file, its exit code.
 */
public final class RunsList {
    private static final Pattern ROW = Pattern.compile("run \\d: .* answered (\\S+), due is (\\S+)");
    private static final Pattern FOLLOWS = Pattern.compile("follows from row (\\d+)");
    private static final Pattern SENTENCE = Pattern.compile("(?:Terms|Promise \\d+): \"(.*)\"");

    private static int wrong = 0;

    private RunsList() {
    }

    public static void main(String[] args) throws IOException {
        List<String> listed = listed(lines(args[0]), String.join(" ", lines(args[1])).replaceAll("\\s+", " "));
        List<String> output = lines(args[2]);
        compare(listed, complaints(output, args[3]));
        System.out.println("RunsList: " + listed.size() + " rows listed, " + wrong + " faults");
        if (wrong != 0) {
            System.exit(1);
        }
    }

    private static List<String> lines(String file) throws IOException {
        return Files.readAllLines(Path.of(file), StandardCharsets.UTF_8);
    }

    private static void fault(String what) {
        wrong++;
        System.out.println("WRONG " + what);
    }

    /** The complaints that the list names; each has its number, the document's answer and a reason. */
    private static List<String> listed(List<String> lines, String document) {
        List<String> rows = new ArrayList<>();
        for (int i = 0; i < lines.size(); i++) {
            if (lines.get(i).isEmpty() || lines.get(i).startsWith("#")) {
                continue;
            }
            int number = rows.size() + 1;
            if (i + 3 >= lines.size() || !lines.get(i).equals("row " + number)) {
                fault("the list at its line " + (i + 1) + ": no whole row " + number);
                break;
            }
            String row = told(lines.get(i + 1), "complaint: ", number);
            String answer = told(lines.get(i + 2), "document: ", number);
            Matcher m = ROW.matcher(row);
            if (!m.matches() || !answer.split(" ")[0].equals(m.group(1)) || m.group(1).equals(m.group(2))) {
                fault("row " + number + ": the document's answer " + answer + " is not what was answered");
            }
            reason(told(lines.get(i + 3), "why: ", number), number, document);
            rows.add(row);
            i += 3;
        }
        return rows;
    }

    private static String told(String line, String head, int number) {
        if (!line.startsWith(head)) {
            fault("row " + number + ": no '" + head + "'");
            return "";
        }
        return line.substring(head.length());
    }

    /** A reason ends with a sentence of the document, and may name earlier rows. */
    private static void reason(String why, int number, String document) {
        String last = "";
        for (String part : why.split("; (?=Promise \\d+: |Terms: |follows )")) {
            Matcher follows = FOLLOWS.matcher(part);
            Matcher sentence = SENTENCE.matcher(part);
            if (follows.matches()) {
                int earlier = Integer.parseInt(follows.group(1));
                if (earlier < 1 || earlier >= number) {
                    fault("row " + number + " follows from no earlier row");
                }
            } else if (!sentence.matches() || !document.contains(sentence.group(1))) {
                fault("row " + number + ": no sentence of the document: " + part);
            }
            last = part;
        }
        if (!SENTENCE.matcher(last).matches()) {
            fault("row " + number + " names no sentence of the document");
        }
    }

    /** All lines of the output but the last, which is the file's own count of them. */
    private static List<String> complaints(List<String> output, String exitCode) {
        if (!exitCode.equals("1")) {
            fault("the file ended with exit code " + exitCode + ", not by its count of wrong rows");
        }
        if (output.isEmpty() || !output.get(output.size() - 1).equals(output.size() - 1 + " answers are not as due")) {
            fault("the last line of the file is not its count of wrong rows");
            return output;
        }
        return output.subList(0, output.size() - 1);
    }

    private static void compare(List<String> listed, List<String> complained) {
        List<String> missing = new ArrayList<>(listed);
        for (String row : complained) {
            if (!missing.remove(row)) {
                fault("not on the list: " + row);
            }
        }
        for (String row : missing) {
            fault("on the list, but not complained of: " + row);
        }
        if (wrong == 0 && !listed.equals(complained)) {
            fault("the rows come in another order than that of the list");
        }
    }
}
