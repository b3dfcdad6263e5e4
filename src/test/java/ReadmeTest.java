import java.nio.file.Files;
import java.nio.file.Path;
import java.util.List;
import java.util.stream.Collectors;

/** The examples of README.md, row by row: each has the answer that stands behind it; run in the project's root. */
public final class ReadmeTest {
    private static List<String> rows;
    private static int row = 0;

    public static void main(String[] args) throws Exception {
        String readme = Files.readString(Path.of("README.md"));
        rows = readme.lines().filter(l -> l.startsWith("up.")).collect(Collectors.toList());
        ApologyUp up = new ApologyUp();
        due("up.officer(ApologyUp.NONE, 3);", up.officer(ApologyUp.NONE, 3));
        due("up.officer(0, 1);", up.officer(0, 1));
        due("up.officer(7, 1);", up.officer(7, 1));
        due("up.wrong(1, 0, 20);", up.wrong(1, 0, 20));
        due("up.day(1);", up.day(1));
        due("up.ofApology(0, 3);", up.ofApology(0, 3));
        due("up.ofApology(0, 4);", up.ofApology(0, 4));
        due("up.day(1);", up.day(1));
        due("up.undo();", up.undo());
        due("up.feed(0x61646473, 0x20707269, 0x64652a32, 0x3b000000, 0);",
                up.feed(0x61646473, 0x20707269, 0x64652a32, 0x3b000000, 0));
        due("up.end(13);", up.end(13));
        due("up.text();", up.text());
        due("up.by(0);", up.by(0));
        due("up.of(0, 4);", up.of(0, 4));
        due("up.feed(0x61646473, 0x20783b00, 0, 0, 0);", up.feed(0x61646473, 0x20783b00, 0, 0, 0));
        due("up.end(7);", up.end(7));
        due("up.text();", up.text());
        due("up.fault(0);", up.fault(0));
        due("up.fault(1);", up.fault(1));
        Checks.due("rows of README.md", rows.size(), row);
        Checks.finish("ReadmeTest");
    }

    private static void due(String call, Object answer) {
        String told = row < rows.size() ? rows.get(row) : "";
        row++;
        int comment = told.indexOf("//");
        String its = comment < 0 ? "" : told.substring(0, comment).trim();
        String says = comment < 0 ? "" : told.substring(comment + 2).trim();
        Checks.due("README.md, row " + row + " is " + call + " (it is " + its + ")", its.equals(call));
        Checks.due("README.md, " + call + " says " + says + ", the class " + answer,
                says.equals("" + answer) || says.startsWith(answer + ","));
    }
}
