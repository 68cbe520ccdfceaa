import java.io.IOException;
import java.nio.file.Files;
import java.nio.file.Path;
import java.util.ArrayList;
import java.util.List;

/** The examples of README.md, line by line as they stand there, and what they say. It runs in the project's directory. */
public final class ReadmeTest {
    public static void main(String[] args) throws IOException {
        Check check = new Check("ReadmeTest");
        examples(check);
        String own = trimmed(Files.readAllLines(Path.of("src/test/java/ReadmeTest.java")));
        List<String> blocks = javaBlocks(Files.readAllLines(Path.of("README.md")));
        check.due("examples", blocks.size(), 2);
        for (String block : blocks) {
            check.due("this example is run:\n" + block, own.contains(block) ? 1 : 0, 1);
        }
        check.end();
    }

    private static void examples(Check check) {
        FrameProcessor x = new FrameProcessor();
        x.poke(32, 512);             // global frame 0 is at 512,
        x.poke(512, 768);            // its code at 768
        x.poke(768, 64);             // procedure 0 begins at byte 64:
        x.poke(800, 0x0001);         // frames of class 0; push ..
        x.poke(801, 0x051B);         // .. 5; RETURN
        x.poke(16, 1024);            // one free frame of class 0
        int p = x.start(1, 3);       // procedure 0 of global frame 0, priority 3
        x.run(1);
        int top = x.stack(p, 0);     // 5
        int done = x.run(500);       // 1: it returns to nobody, and the process is FREE again

        check.due("top", top, 5);
        check.due("done", done, 1);
        check.due("FREE", x.process(p, 0), 0);

        int q = x.start(1, 3);
        x.map(4, FrameProcessor.NONE);   // the page of its frame goes away
        int tried = x.run(500);          // 1: an instruction that FAULTs counts
        int fault = x.process(q, 6);     // 1: a page that has none
        x.map(4, 4);
        x.resume(q);                     // at the same instruction
        int rest = x.run(500);           // 2: the push and the RETURN

        check.due("tried", tried, 1);
        check.due("fault", fault, 1);
        check.due("rest", rest, 2);
        check.due("FREE again", x.process(q, 0), 0);
    }

    private static String trimmed(List<String> lines) {
        StringBuilder text = new StringBuilder();
        for (String line : lines) {
            text.append(line.trim()).append('\n');
        }
        return text.toString();
    }

    private static List<String> javaBlocks(List<String> lines) {
        List<String> blocks = new ArrayList<>();
        int begin = -1;
        for (int i = 0; i < lines.size(); i++) {
            if (lines.get(i).equals("```java")) {
                begin = i + 1;
            } else if (lines.get(i).equals("```") && begin >= 0) {
                blocks.add(trimmed(lines.subList(begin, i)));
                begin = -1;
            }
        }
        return blocks;
    }
}
