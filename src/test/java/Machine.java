import java.util.ArrayList;
import java.util.List;
import java.util.function.ToIntFunction;

/**
 * A FrameProcessor that is held to the document's 512 calls: what later ones answer is free, so no test may ask for it.
 * It can be made again as it is now, so that all of it can be looked at.
 */
final class Machine {
    static final int MOST_CALLS = 512;

    private final FrameProcessor x = new FrameProcessor();
    private final List<ToIntFunction<FrameProcessor>> calls = new ArrayList<>();
    private FrameProcessor copy;
    private int copyCalls;

    private int call(ToIntFunction<FrameProcessor> call) {
        calls.add(call);
        copy = null;
        if (calls.size() > MOST_CALLS) {
            throw tooMany();
        }
        return call.applyAsInt(x);
    }

    private static AssertionError tooMany() {
        return new AssertionError("a test made more than " + MOST_CALLS + " calls");
    }

    void map(int page, int real) {
        call(y -> {
            y.map(page, real);
            return 0;
        });
    }

    void protect(int page, boolean is) {
        call(y -> {
            y.protect(page, is);
            return 0;
        });
    }

    int noted(int real) {
        return call(y -> y.noted(real));
    }

    void poke(int address, int v) {
        call(y -> {
            y.poke(address, v);
            return 0;
        });
    }

    int peek(int address) {
        return call(y -> y.peek(address));
    }

    int start(int link, int priority) {
        return call(y -> y.start(link, priority));
    }

    int run(int n) {
        return call(y -> y.run(n));
    }

    void resume(int process) {
        call(y -> {
            y.resume(process);
            return 0;
        });
    }

    void kill(int process) {
        call(y -> {
            y.kill(process);
            return 0;
        });
    }

    int interrupt(int condition) {
        return call(y -> y.interrupt(condition));
    }

    int tick(int n) {
        return call(y -> y.tick(n));
    }

    int running() {
        return call(y -> y.running());
    }

    int process(int process, int what) {
        return call(y -> y.process(process, what));
    }

    int stack(int process, int k) {
        return call(y -> y.stack(process, k));
    }

    int page(int page, int what) {
        return call(y -> y.page(page, what));
    }

    int free(int k) {
        return call(y -> y.free(k));
    }

    /** Another one as this is now, that may be asked once more; what it is asked is no call of this one. */
    FrameProcessor view() {
        if (calls.size() >= MOST_CALLS) {
            throw tooMany();
        }
        if (copy == null || copyCalls >= MOST_CALLS) {
            copy = again();
            copyCalls = calls.size();
        }
        copyCalls++;
        return copy;
    }

    private FrameProcessor again() {
        FrameProcessor y = new FrameProcessor();
        for (ToIntFunction<FrameProcessor> call : calls) {
            try {
                call.applyAsInt(y);
            } catch (RuntimeException e) {
                // what was refused is refused again
                continue;
            }
        }
        return y;
    }

    /** All that can be asked, as one text. */
    String picture() {
        return pictureButNotes() + notesPicture();
    }

    String pictureButNotes() {
        StringBuilder text = new StringBuilder("runs " + view().running() + '\n');
        for (int p = 0; p < 6; p++) {
            text.append(processPicture(p, 0, 1, 2, 3, 4, 5, 6, 7));
        }
        return text.append(memoryPicture()).toString();
    }

    /** What an instruction of p that is not done must leave as it was: all but where p is now, and what is noted. */
    String pictureBut(int p) {
        StringBuilder text = new StringBuilder();
        for (int other = 0; other < 6; other++) {
            text.append(other == p ? processPicture(p, 1, 2, 3) : processPicture(other, 0, 1, 2, 3, 4, 5, 6));
        }
        return text.append(memoryPicture()).toString();
    }

    private String processPicture(int p, int... whats) {
        StringBuilder text = new StringBuilder("process " + p + ':');
        for (int what : whats) {
            text.append(' ').append(view().process(p, what));
        }
        text.append(" stack");
        for (int k = 0; k < 9; k++) {
            text.append(' ').append(view().stack(p, k));
        }
        return text.append('\n').toString();
    }

    /** The pages, their words and the lists of free frames. */
    String memoryPicture() {
        StringBuilder text = new StringBuilder();
        for (int page = 0; page < 16; page++) {
            int real = view().page(page, 0);
            text.append("page ").append(real).append(' ').append(view().page(page, 1)).append(':');
            for (int i = 0; i < 256 && real != FrameProcessor.NONE; i++) {
                text.append(' ').append(view().peek(page * 256 + i));
            }
            text.append('\n');
        }
        for (int k = 0; k < 8; k++) {
            text.append(' ').append(view().free(k));
        }
        return text.append('\n').toString();
    }

    String notesPicture() {
        StringBuilder text = new StringBuilder("notes");
        for (int real = 0; real < 12; real++) {
            text.append(' ').append(view().noted(real));
        }
        // its notes are taken now, so this copy is no copy any more
        copy = null;
        return text.append('\n').toString();
    }
}
