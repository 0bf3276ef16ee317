import java.nio.charset.StandardCharsets;
import java.nio.file.Files;
import java.nio.file.Paths;
import java.util.ArrayList;
import java.util.List;

/** Makes the calls that README.md shows, in its order, and looks whether it tells their answers. */
public final class ReadmeTest {
    private static final Check CHECK = new Check();
    private static final List<String> SHOWN = new ArrayList<>();
    private static int next;

    public static void main(String[] args) throws Exception {
        boolean inCode = false;
        for (String line : Files.readAllLines(Paths.get("README.md"), StandardCharsets.US_ASCII)) {
            if (line.startsWith("```")) inCode = line.equals("```java");
            else if (inCode && line.matches("portrait\\..*")) SHOWN.add(line);
        }
        PipPortrait portrait = new PipPortrait();
        laying(portrait);
        looking(portrait);
        asking(portrait);
        keeping(portrait);
        texts(portrait);
        CHECK.due("calls that README.md shows", next, SHOWN::size);
        CHECK.end("ReadmeTest");
    }

    private static void laying(PipPortrait portrait) {
        is("begin(6, 1)", portrait.begin(6, 1));
        is("grey(7, 6, 99)", portrait.grey(7, 6, 99));
        is("fade(0, 99)", portrait.fade(0, 99));
        is("turn(3)", portrait.turn(3));
        is("undo()", portrait.undo());
        is("swap(3, 20)", portrait.swap(3, 20));
        is("flip(6, 5)", portrait.flip(6, 5));
        is("hold(0, true)", portrait.hold(0, true));
        is("lay()", portrait.lay());
    }

    private static void looking(PipPortrait portrait) {
        is("about(5)", portrait.about(5));
        is("square(7, 6, 1)", portrait.square(7, 6, 1));
        is("place(0, 5)", portrait.place(0, 5));
        is("tile(27, 2)", portrait.tile(27, 2));
    }

    private static void asking(PipPortrait portrait) {
        is("best(0)", portrait.best(0));
        is("best(1)", portrait.best(1));
        is("gain(11827)", portrait.gain(11827));
        is("ifImproved(20, 0)", portrait.ifImproved(20, 0));
        is("ifImproved(20, 1)", portrait.ifImproved(20, 1));
        is("least()", portrait.least());
        is("worst(0)", portrait.worst(0));
        is("fits(27)", portrait.fits(27));
        is("runScript(2, 210000920930L)", portrait.runScript(2, 210000920930L));
        is("simulate(1L, 30)", portrait.simulate(1L, 30));
    }

    private static void keeping(PipPortrait portrait) {
        is("save(0)", portrait.save(0));
        is("improve(20)", portrait.improve(20));
        is("about(10)", portrait.about(10));
        is("restore(0)", portrait.restore(0));
    }

    private static void texts(PipPortrait portrait) {
        for (char sign : "D31f0099s0019b000h02l".toCharArray()) portrait.append(sign);
        is("errorPosition()", portrait.errorPosition());
        is("load()", portrait.load());
        is("append('i')", portrait.append('i'));
        is("errorPosition()", portrait.errorPosition());
        is("clearText()", portrait.clearText());
    }

    /** README.md shows this call next, with this answer. */
    private static void is(String call, int answer) {
        String shown = next < SHOWN.size() ? SHOWN.get(next) : "nothing more";
        next++;
        String want = "portrait." + call + "; // " + answer + ":";
        CHECK.holds("README.md: " + want + " where it shows " + shown, shown.replaceAll("; +//", "; //").startsWith(want));
    }
}
