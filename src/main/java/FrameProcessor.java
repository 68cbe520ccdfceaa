/**
 * A processor with frames on a heap, as the document tells it: byte codes on a stack, calls through links,
 * processes with monitors and conditions, and pages that may not be there.
 */
public final class FrameProcessor {
    public static final int NONE = -1;

    private static final int WORD_MASK = 0xFFFF;
    private static final int MOST_INSTRUCTIONS = 500;
    private static final int MOST_TICKS = 100000;
    private static final int MOST_FREE_FRAMES = 600;

    private static final int FAULT_NO_PAGE = 1;
    private static final int FAULT_PROTECTED = 2;
    private static final int FAULT_NO_FRAME = 3;
    private static final int FAULT_LINK = 4;
    private static final int FAULT_STACK_SHORT = 5;
    private static final int FAULT_STACK_FULL = 6;
    private static final int FAULT_DIVISION = 7;
    private static final int FAULT_NO_PROCESS = 8;
    private static final int FAULT_NO_INSTRUCTION = 9;

    private final Memory memory;
    private final Roster roster;
    private final Processor processor;

    public FrameProcessor() {
        memory = new Memory();
        roster = new Roster();
        processor = new Processor(memory, roster);
    }

    public void map(int page, int real) throws IndexOutOfBoundsException {
        if (!Memory.isPage(page) || (real != NONE && !Memory.isRealPage(real))) {
            throw new IndexOutOfBoundsException();
        }
        memory.assign(page, real);
    }

    public void protect(int page, boolean is) throws IndexOutOfBoundsException {
        if (!Memory.isPage(page)) {
            throw new IndexOutOfBoundsException();
        }
        memory.setGuarded(page, is);
    }

    public int noted(int real) throws IndexOutOfBoundsException {
        if (!Memory.isRealPage(real)) {
            throw new IndexOutOfBoundsException();
        }
        return memory.takeNotes(real);
    }

    public void poke(int address, int v) throws IndexOutOfBoundsException, IllegalStateException {
        if (!Memory.isAddress(address)) {
            throw new IndexOutOfBoundsException();
        }
        if (!memory.isThere(address)) {
            throw new IllegalStateException();
        }
        memory.put(address, v);
    }

    public int peek(int address) throws IndexOutOfBoundsException, IllegalStateException {
        if (!Memory.isAddress(address)) {
            throw new IndexOutOfBoundsException();
        }
        if (!memory.isThere(address)) {
            throw new IllegalStateException();
        }
        return memory.look(address);
    }

    public int start(int link, int priority) throws IllegalStateException {
        int number = processor.launch(link & WORD_MASK, priority);
        if (number == NONE) {
            throw new IllegalStateException();
        }
        return number;
    }

    public int run(int n) throws IllegalArgumentException {
        if (n < 0 || n > MOST_INSTRUCTIONS) {
            throw new IllegalArgumentException();
        }
        int done = 0;
        while (done < n) {
            Task runner = roster.runner();
            if (runner == null) {
                break;
            }
            processor.step(runner);
            done++;
        }
        return done;
    }

    public void resume(int process) throws IndexOutOfBoundsException, IllegalStateException {
        Task task = roster.taskAt(process);
        if (task == null) {
            throw new IndexOutOfBoundsException();
        }
        if (task.state != Task.STOPPED) {
            throw new IllegalStateException();
        }
        roster.makeReady(task);
    }

    public void kill(int process) throws IndexOutOfBoundsException, IllegalStateException {
        Task task = roster.taskAt(process);
        if (task == null) {
            throw new IndexOutOfBoundsException();
        }
        if (task.state == Task.FREE) {
            throw new IllegalStateException();
        }
        task.clear();
    }

    public int interrupt(int condition) throws IndexOutOfBoundsException {
        if (!Memory.isAddress(condition)) {
            throw new IndexOutOfBoundsException();
        }
        int woken = roster.wakeFirst(Task.WAITING, condition);
        if (woken == NONE) {
            memory.makeOdd(condition);
        }
        return woken;
    }

    public int tick(int n) throws IllegalArgumentException {
        if (n < 0 || n > MOST_TICKS) {
            throw new IllegalArgumentException();
        }
        return roster.passTicks(n);
    }

    public int running() {
        Task runner = roster.runner();
        return runner == null ? NONE : runner.number;
    }

    public int process(int process, int what) {
        Task task = roster.taskAt(process);
        if (task == null) {
            return NONE;
        }
        switch (what) {
            case 0:
                return task.state;
            case 1:
                return task.priority;
            case 2:
                return task.frame;
            case 3:
                return task.depth;
            case 4:
                return task.address;
            case 5:
                return task.timeout;
            case 6:
                return task.fault;
            case 7:
                return roster.placeOf(task);
            default:
                return NONE;
        }
    }

    public int stack(int process, int k) {
        Task task = roster.taskAt(process);
        return task == null ? NONE : task.wordFromTop(k);
    }

    public int page(int page, int what) {
        if (!Memory.isPage(page)) {
            return NONE;
        }
        switch (what) {
            case 0:
                return memory.realOf(page);
            case 1:
                return memory.isGuarded(page) ? 1 : 0;
            default:
                return NONE;
        }
    }

    public int free(int k) {
        if (k < 0 || k >= Frames.CLASSES) {
            return NONE;
        }
        int count = 0;
        int frame = memory.look(Frames.FIRST_FREE + k);
        // a list may run in a circle, so the count is what ends it
        while (frame != 0 && count < MOST_FREE_FRAMES) {
            count++;
            frame = memory.look(frame);
        }
        return count;
    }

    /**
     * The pages and their words. A fault is held until the next begin(): reads and writes behind it do
     * nothing, so that an instruction can go on to its end without asking each time.
     */
    private static final class Memory {
        private static final int PAGES = 16;
        private static final int REAL_PAGES = 12;
        private static final int PAGE_BITS = 8;
        private static final int PAGE_WORDS = 1 << PAGE_BITS;
        private static final int ADDRESSES = PAGES * PAGE_WORDS;
        private static final int PAGE_MASK = PAGES - 1;
        private static final int OFFSET_MASK = PAGE_WORDS - 1;
        private static final int USED = 1;
        private static final int CHANGED = 2;
        // no instruction writes more than seven words
        private static final int MOST_WRITES = 16;

        private final int[] words = new int[REAL_PAGES * PAGE_WORDS];
        private final int[] reals = new int[PAGES];
        private final boolean[] guarded = new boolean[PAGES];
        private final int[] notes = new int[REAL_PAGES];
        private final int[] writtenPlaces = new int[MOST_WRITES];
        private final int[] formerWords = new int[MOST_WRITES];
        private int writes;
        private int fault;

        Memory() {
            for (int page = 0; page < PAGES; page++) {
                reals[page] = page < REAL_PAGES ? page : NONE;
            }
        }

        static boolean isAddress(int address) {
            return address >= 0 && address < ADDRESSES;
        }

        static boolean isPage(int page) {
            return page >= 0 && page < PAGES;
        }

        static boolean isRealPage(int real) {
            return real >= 0 && real < REAL_PAGES;
        }

        static int addressOf(int word) {
            return word & (ADDRESSES - 1);
        }

        void assign(int page, int real) {
            reals[page] = real;
        }

        int realOf(int page) {
            return reals[page];
        }

        void setGuarded(int page, boolean is) {
            guarded[page] = is;
        }

        boolean isGuarded(int page) {
            return guarded[page];
        }

        int takeNotes(int real) {
            int found = notes[real];
            notes[real] = 0;
            return found;
        }

        boolean isThere(int address) {
            return reals[(address >> PAGE_BITS) & PAGE_MASK] != NONE;
        }

        int look(int address) {
            int real = reals[(address >> PAGE_BITS) & PAGE_MASK];
            return real == NONE ? 0 : words[real * PAGE_WORDS + (address & OFFSET_MASK)];
        }

        void put(int address, int v) {
            int real = reals[(address >> PAGE_BITS) & PAGE_MASK];
            if (real != NONE) {
                words[real * PAGE_WORDS + (address & OFFSET_MASK)] = v & WORD_MASK;
            }
        }

        void makeOdd(int address) {
            int page = (address >> PAGE_BITS) & PAGE_MASK;
            int real = reals[page];
            int word = look(address);
            if (real == NONE || guarded[page] || (word & 1) != 0) {
                return;
            }
            put(address, word + 1);
            notes[real] = USED | CHANGED;
        }

        void begin() {
            writes = 0;
            fault = 0;
        }

        boolean hasFailed() {
            return fault != 0;
        }

        int faultHeld() {
            return fault;
        }

        void fail(int code) {
            // the first fault is the one that counts
            if (fault == 0) {
                fault = code;
            }
        }

        int read(int address) {
            int real = reals[(address >> PAGE_BITS) & PAGE_MASK];
            if (fault == 0 && real == NONE) {
                fault = FAULT_NO_PAGE;
            }
            if (fault != 0) {
                return 0;
            }
            notes[real] |= USED;
            return words[real * PAGE_WORDS + (address & OFFSET_MASK)];
        }

        void write(int address, int v) {
            int page = (address >> PAGE_BITS) & PAGE_MASK;
            int real = reals[page];
            if (fault == 0 && real == NONE) {
                fault = FAULT_NO_PAGE;
            } else if (fault == 0 && guarded[page]) {
                fault = FAULT_PROTECTED;
            }
            if (fault != 0 || writes >= MOST_WRITES) {
                return;
            }
            int place = real * PAGE_WORDS + (address & OFFSET_MASK);
            writtenPlaces[writes] = place;
            formerWords[writes] = words[place];
            writes++;
            notes[real] |= USED | CHANGED;
            words[place] = v & WORD_MASK;
        }

        void undo() {
            // backwards: a word may have been written twice
            for (int i = writes - 1; i >= 0; i--) {
                words[writtenPlaces[i]] = formerWords[i];
            }
            writes = 0;
        }
    }

    /** The heap of frames, the links and the code, as they stand in memory. */
    private static final class Frames {
        static final int CLASSES = 8;
        static final int FIRST_FREE = 16;
        private static final int GLOBAL_FRAMES = 32;
        private static final int BACK = 0;
        private static final int GLOBAL = 1;
        private static final int NEXT = 2;
        private static final int CLASS = 3;
        private static final int LOCALS = 4;

        private final Memory memory;

        Frames(Memory memory) {
            this.memory = memory;
        }

        int take(int least) {
            int frame = 0;
            int found = least;
            for (int k = least; k < CLASSES && frame == 0; k++) {
                frame = memory.read(FIRST_FREE + k);
                found = k;
            }
            if (frame == 0) {
                memory.fail(FAULT_NO_FRAME);
                return 0;
            }
            memory.write(FIRST_FREE + found, memory.read(frame));
            memory.write(frame + CLASS, found);
            return frame;
        }

        void giveBack(int frame) {
            int k = memory.read(frame + CLASS) & (CLASSES - 1);
            int first = memory.read(FIRST_FREE + k);
            memory.write(frame, first);
            memory.write(FIRST_FREE + k, frame);
        }

        static boolean isProcedure(int link) {
            return (link & 1) != 0;
        }

        private static boolean isElsewhere(int link) {
            return (link & 3) == 2;
        }

        /** The frame or procedure that a link leads to; 0 with a fault. */
        int meant(int link) {
            int found = isElsewhere(link) ? memory.read(link - 2) : link;
            if (found == 0 || isElsewhere(found)) {
                memory.fail(FAULT_LINK);
                return 0;
            }
            return found;
        }

        int byteAt(int code, int b) {
            int word = memory.read(code + (b & WORD_MASK) / 2);
            return (b & 1) == 0 ? word >> 8 : word & 0xFF;
        }

        static int procedure(int g, int entry) {
            return g * 32 + entry * 2 + 1;
        }

        int open(int procedure, int caller) {
            int g = (procedure >> 5) & 15;
            int code = memory.read(memory.read(GLOBAL_FRAMES + g));
            int begin = memory.read(code + ((procedure >> 1) & 15));
            int frame = take(byteAt(code, begin) & (CLASSES - 1));
            memory.write(frame + BACK, caller);
            memory.write(frame + GLOBAL, g);
            memory.write(frame + NEXT, begin + 1);
            return frame;
        }
    }

    /** One process, as it is between instructions. */
    private static final class Task {
        static final int FREE = 0;
        static final int READY = 1;
        static final int BLOCKED = 2;
        static final int WAITING = 3;
        static final int STOPPED = 4;
        static final int STACK_WORDS = 8;

        final int number;
        final int[] words = new int[STACK_WORDS];
        int state;
        int priority;
        int frame;
        int depth;
        int address;
        int timeout;
        int fault;
        int since;

        Task(int number) {
            this.number = number;
            this.address = NONE;
        }

        void clear() {
            enter(FREE, 0);
            priority = 0;
            frame = 0;
            depth = 0;
        }

        void enter(int newState, int when) {
            state = newState;
            since = when;
            address = NONE;
            timeout = 0;
            fault = 0;
        }

        int wordFromTop(int k) {
            return k >= 0 && k < depth ? words[depth - 1 - k] : NONE;
        }

        boolean goesAhead(Task other) {
            return priority != other.priority ? priority > other.priority : since < other.since;
        }
    }

    /** The six processes, and the order in which they came to where they are. */
    private static final class Roster {
        private static final int TASKS = 6;

        private final Task[] tasks = new Task[TASKS];
        private int changes;

        Roster() {
            for (int i = 0; i < TASKS; i++) {
                tasks[i] = new Task(i);
            }
        }

        Task taskAt(int number) {
            return number >= 0 && number < TASKS ? tasks[number] : null;
        }

        Task leastFree() {
            for (int i = 0; i < TASKS; i++) {
                if (tasks[i].state == Task.FREE) {
                    return tasks[i];
                }
            }
            return null;
        }

        Task runner() {
            return firstAt(Task.READY, NONE);
        }

        private Task firstAt(int state, int address) {
            Task first = null;
            for (int i = 0; i < TASKS; i++) {
                Task task = tasks[i];
                boolean is = task.state == state && task.address == address;
                if (is && (first == null || task.goesAhead(first))) {
                    first = task;
                }
            }
            return first;
        }

        int placeOf(Task task) {
            if (task.state != Task.READY) {
                return NONE;
            }
            int place = 0;
            for (int i = 0; i < TASKS; i++) {
                if (tasks[i].state == Task.READY && tasks[i].since < task.since) {
                    place++;
                }
            }
            return place;
        }

        private int nextChange() {
            changes++;
            return changes;
        }

        void makeReady(Task task) {
            task.enter(Task.READY, nextChange());
        }

        void begin(Task task, int frame, int priority) {
            task.frame = frame;
            task.priority = priority;
            task.depth = 0;
            makeReady(task);
        }

        void halt(Task task, int fault) {
            task.enter(Task.STOPPED, nextChange());
            task.fault = fault;
        }

        void block(Task task, int monitor) {
            task.enter(Task.BLOCKED, nextChange());
            task.address = monitor;
        }

        void await(Task task, int condition, int timeout) {
            task.enter(Task.WAITING, nextChange());
            task.address = condition;
            task.timeout = timeout;
        }

        /** The number of the one that is READY now, or NONE. */
        int wakeFirst(int state, int address) {
            Task first = firstAt(state, address);
            if (first == null) {
                return NONE;
            }
            makeReady(first);
            return first.number;
        }

        void wakeAll(int condition) {
            for (int i = 0; i < TASKS; i++) {
                wakeFirst(Task.WAITING, condition);
            }
        }

        /** Goes from one timeout's end to the next, as the ticks between change nothing else. */
        int passTicks(int n) {
            int left = n;
            int woken = 0;
            for (int i = 0; i < TASKS; i++) {
                int least = leastTimeout();
                if (least == 0 || least > left) {
                    break;
                }
                woken += lowerTimeouts(least);
                left -= least;
            }
            return woken + lowerTimeouts(left);
        }

        private int leastTimeout() {
            int least = 0;
            for (int i = 0; i < TASKS; i++) {
                int timeout = tasks[i].timeout;
                if (timeout > 0 && (least == 0 || timeout < least)) {
                    least = timeout;
                }
            }
            return least;
        }

        private int lowerTimeouts(int by) {
            int woken = 0;
            for (int i = 0; i < TASKS; i++) {
                Task task = tasks[i];
                if (task.timeout > 0) {
                    task.timeout -= by;
                    if (task.timeout == 0) {
                        makeReady(task);
                        woken++;
                    }
                }
            }
            return woken;
        }
    }

    /** The stack while an instruction works on it; the process keeps its own until the end. */
    private static final class WorkStack {
        // one word over what a process may have: the fault for that comes only at the end
        private static final int ROOM = Task.STACK_WORDS + 1;

        private final Memory memory;
        private final int[] words = new int[ROOM];
        private int depth;

        WorkStack(Memory memory) {
            this.memory = memory;
        }

        void loadFrom(Task task) {
            depth = task.depth;
            for (int i = 0; i < depth; i++) {
                words[i] = task.words[i];
            }
        }

        boolean isOver() {
            return depth > Task.STACK_WORDS;
        }

        void saveTo(Task task) {
            task.depth = depth;
            for (int i = 0; i < depth; i++) {
                task.words[i] = words[i];
            }
        }

        void push(int v) {
            if (depth < ROOM) {
                words[depth] = v & WORD_MASK;
                depth++;
            }
        }

        int pop() {
            if (depth == 0) {
                memory.fail(FAULT_STACK_SHORT);
                return 0;
            }
            depth--;
            return words[depth];
        }
    }

    /** The codes, and the one that is fetched. */
    private static final class Instruction {
        static final int NOTHING = 0;
        static final int PUSH_BYTE = 1;
        static final int PUSH_WORD = 2;
        static final int PUSH_LOCAL = 3;
        static final int POP_LOCAL = 4;
        static final int PUSH_GLOBAL = 5;
        static final int POP_GLOBAL = 6;
        static final int LOAD = 7;
        static final int STORE = 8;
        static final int ADD = 9;
        static final int SUBTRACT = 10;
        static final int MULTIPLY = 11;
        static final int DIVIDE = 12;
        static final int AND = 13;
        static final int OR = 14;
        static final int XOR = 15;
        static final int SHIFT = 16;
        static final int DOUBLE = 17;
        static final int DROP = 18;
        static final int EXCHANGE = 19;
        static final int JUMP = 20;
        static final int JUMP_ZERO = 21;
        static final int JUMP_LESS = 22;
        static final int GET_FIELD = 23;
        static final int PUT_FIELD = 24;
        static final int CALL_OWN = 25;
        static final int CALL_LINKED = 26;
        static final int RETURN = 27;
        static final int CALL_POPPED = 28;
        static final int TAKE = 29;
        static final int GIVE_BACK = 30;
        static final int FORK = 31;
        static final int ENTER = 40;
        static final int EXIT = 41;
        static final int WAIT = 42;
        static final int NOTIFY = 43;
        static final int NOTIFY_ALL = 44;
        static final int YIELD = 45;

        // how many bytes stand behind each code; -1: no such code
        private static final int[] OPERAND_BYTES = {
            0, 1, 2, 1, 1, 1, 1, 1, 1, 0,
            0, 0, 0, 0, 0, 0, 0, 0, 0, 0,
            1, 1, 1, 1, 1, 1, 1, 0, 0, 1,
            0, 0, -1, -1, -1, -1, -1, -1, -1, -1,
            0, 0, 0, 0, 0, 0
        };

        private final Memory memory;
        private final Frames frames;
        int g;
        int globalFrame;
        int first;
        int code;
        int operand;
        int next;

        Instruction(Memory memory, Frames frames) {
            this.memory = memory;
            this.frames = frames;
        }

        void fetch(int frame) {
            g = memory.read(frame + Frames.GLOBAL) & 15;
            globalFrame = memory.read(Frames.GLOBAL_FRAMES + g);
            int bytes = memory.read(globalFrame);
            first = memory.read(frame + Frames.NEXT);
            code = frames.byteAt(bytes, first);
            int more = code < OPERAND_BYTES.length ? OPERAND_BYTES[code] : -1;
            if (more < 0) {
                memory.fail(FAULT_NO_INSTRUCTION);
            }
            operand = 0;
            for (int i = 1; i <= more; i++) {
                operand = operand * 256 + frames.byteAt(bytes, first + i);
            }
            next = first + 1 + more;
        }

        void jump() {
            next = first + (byte) operand;
        }
    }

    /** Does the instructions. What is outside memory changes only in settle(), when no fault can come any more. */
    private static final class Processor {
        private final Memory memory;
        private final Roster roster;
        private final Frames frames;
        private final WorkStack stack;
        private final Instruction instruction;
        private Task task;
        private int frame;
        private boolean savesNext;
        private boolean ends;
        private boolean blocks;
        private boolean waits;
        private int monitor;
        private int condition;
        private int timeout;
        private Task child;
        private int childFrame;
        private int childPriority;

        Processor(Memory memory, Roster roster) {
            this.memory = memory;
            this.roster = roster;
            this.frames = new Frames(memory);
            this.stack = new WorkStack(memory);
            this.instruction = new Instruction(memory, frames);
        }

        /** The number of the process that begins, or NONE with a fault. */
        int launch(int link, int priority) {
            memory.begin();
            prepareChild(link, priority);
            if (memory.hasFailed() || child == null) {
                memory.undo();
                return NONE;
            }
            roster.begin(child, childFrame, childPriority);
            return child.number;
        }

        void step(Task runner) {
            beginWith(runner);
            instruction.fetch(frame);
            if (!memory.hasFailed()) {
                if (instruction.code < Instruction.ADD) {
                    move();
                } else if (instruction.code < Instruction.DOUBLE) {
                    combine();
                } else if (instruction.code < Instruction.CALL_OWN) {
                    arrange();
                } else if (instruction.code < Instruction.ENTER) {
                    transfer();
                } else {
                    coordinate();
                }
            }
            if (blocks) {
                // it has written nothing, so nothing is to be undone
                roster.block(task, monitor);
                return;
            }
            endAtNext();
            if (memory.hasFailed()) {
                memory.undo();
                roster.halt(task, memory.faultHeld());
                return;
            }
            settle();
        }

        private void beginWith(Task runner) {
            memory.begin();
            stack.loadFrom(runner);
            task = runner;
            frame = runner.frame;
            savesNext = true;
            ends = false;
            blocks = false;
            waits = false;
        }

        private void endAtNext() {
            if (stack.isOver()) {
                memory.fail(FAULT_STACK_FULL);
            }
            if (savesNext) {
                saveNext();
            }
        }

        private void saveNext() {
            memory.write(task.frame + Frames.NEXT, instruction.next);
            savesNext = false;
        }

        private void settle() {
            stack.saveTo(task);
            task.frame = frame;
            switch (instruction.code) {
                case Instruction.RETURN:
                    if (ends) {
                        task.clear();
                    }
                    break;
                case Instruction.FORK:
                    if (child != null) {
                        roster.begin(child, childFrame, childPriority);
                    }
                    break;
                case Instruction.EXIT:
                    roster.wakeFirst(Task.BLOCKED, monitor);
                    break;
                case Instruction.WAIT:
                    if (waits) {
                        roster.await(task, condition, timeout);
                    }
                    roster.wakeFirst(Task.BLOCKED, monitor);
                    break;
                case Instruction.NOTIFY:
                    roster.wakeFirst(Task.WAITING, condition);
                    break;
                case Instruction.NOTIFY_ALL:
                    roster.wakeAll(condition);
                    break;
                case Instruction.YIELD:
                    roster.makeReady(task);
                    break;
                default:
                    break;
            }
        }

        private void move() {
            int n = instruction.operand;
            switch (instruction.code) {
                case Instruction.PUSH_BYTE:
                case Instruction.PUSH_WORD:
                    stack.push(n);
                    break;
                case Instruction.PUSH_LOCAL:
                    stack.push(memory.read(frame + Frames.LOCALS + n));
                    break;
                case Instruction.POP_LOCAL:
                    memory.write(frame + Frames.LOCALS + n, stack.pop());
                    break;
                case Instruction.PUSH_GLOBAL:
                    stack.push(memory.read(instruction.globalFrame + 1 + n));
                    break;
                case Instruction.POP_GLOBAL:
                    memory.write(instruction.globalFrame + 1 + n, stack.pop());
                    break;
                case Instruction.LOAD:
                    stack.push(memory.read(stack.pop() + n));
                    break;
                case Instruction.STORE:
                    int address = stack.pop() + n;
                    memory.write(address, stack.pop());
                    break;
                default:
                    break;
            }
        }

        private void combine() {
            int b = stack.pop();
            int a = stack.pop();
            if (instruction.code == Instruction.DIVIDE && b == 0) {
                memory.fail(FAULT_DIVISION);
            } else {
                stack.push(combined(instruction.code, a, b));
            }
        }

        private static int combined(int code, int a, int b) {
            switch (code) {
                case Instruction.ADD:
                    return a + b;
                case Instruction.SUBTRACT:
                    return a - b;
                case Instruction.MULTIPLY:
                    return a * b;
                case Instruction.DIVIDE:
                    return b == 0 ? 0 : a / b;
                case Instruction.AND:
                    return a & b;
                case Instruction.OR:
                    return a | b;
                case Instruction.XOR:
                    return a ^ b;
                default:
                    return shifted(a, (short) b);
            }
        }

        private static int shifted(int a, int by) {
            if (by <= -16 || by >= 16) {
                return 0;
            }
            return by >= 0 ? a << by : a >> -by;
        }

        private void arrange() {
            switch (instruction.code) {
                case Instruction.DOUBLE:
                    int top = stack.pop();
                    stack.push(top);
                    stack.push(top);
                    break;
                case Instruction.DROP:
                    stack.pop();
                    break;
                case Instruction.EXCHANGE:
                    int upper = stack.pop();
                    int lower = stack.pop();
                    stack.push(upper);
                    stack.push(lower);
                    break;
                case Instruction.JUMP:
                    instruction.jump();
                    break;
                case Instruction.JUMP_ZERO:
                    if (stack.pop() == 0) {
                        instruction.jump();
                    }
                    break;
                case Instruction.JUMP_LESS:
                    int b = (short) stack.pop();
                    int a = (short) stack.pop();
                    if (a < b) {
                        instruction.jump();
                    }
                    break;
                case Instruction.GET_FIELD:
                    stack.push((stack.pop() & fieldMask()) >> fieldShift());
                    break;
                case Instruction.PUT_FIELD:
                    int field = stack.pop() << fieldShift();
                    stack.push((stack.pop() & ~fieldMask()) | (field & fieldMask()));
                    break;
                default:
                    break;
            }
        }

        private int fieldMask() {
            int from = instruction.operand >> 4;
            return (WORD_MASK >> from) & (WORD_MASK << fieldShift());
        }

        private int fieldShift() {
            int from = instruction.operand >> 4;
            int size = (instruction.operand & 15) + 1;
            return Math.max(0, 16 - from - size);
        }

        private void transfer() {
            int n = instruction.operand;
            switch (instruction.code) {
                case Instruction.CALL_OWN:
                    saveNext();
                    goTo(Frames.procedure(instruction.g, n & 15), task.frame);
                    break;
                case Instruction.CALL_LINKED:
                    int far = memory.read(instruction.globalFrame - 1 - n);
                    saveNext();
                    goTo(far, task.frame);
                    break;
                case Instruction.CALL_POPPED:
                    int popped = stack.pop();
                    saveNext();
                    goTo(popped, task.frame);
                    break;
                case Instruction.RETURN:
                    savesNext = false;
                    int back = memory.read(frame + Frames.BACK);
                    frames.giveBack(frame);
                    ends = back == 0;
                    if (!ends) {
                        goTo(back, 0);
                    }
                    break;
                case Instruction.TAKE:
                    stack.push(frames.take(n & (Frames.CLASSES - 1)));
                    break;
                case Instruction.GIVE_BACK:
                    frames.giveBack(stack.pop());
                    break;
                case Instruction.FORK:
                    int link = stack.pop();
                    prepareChild(link, stack.pop());
                    break;
                default:
                    break;
            }
        }

        private void goTo(int link, int caller) {
            int meant = frames.meant(link);
            frame = Frames.isProcedure(meant) ? frames.open(meant, caller) : meant;
        }

        private void prepareChild(int link, int priority) {
            childPriority = priority & 7;
            child = roster.leastFree();
            if (child == null) {
                memory.fail(FAULT_NO_PROCESS);
                return;
            }
            int meant = frames.meant(link);
            if (Frames.isProcedure(meant)) {
                childFrame = frames.open(meant, 0);
            } else {
                memory.fail(FAULT_NO_PROCESS);
            }
        }

        private void coordinate() {
            switch (instruction.code) {
                case Instruction.ENTER:
                    enterMonitor(stack.pop());
                    break;
                case Instruction.EXIT:
                    exitMonitor(stack.pop());
                    break;
                case Instruction.WAIT:
                    timeout = stack.pop();
                    condition = Memory.addressOf(stack.pop());
                    exitMonitor(stack.pop());
                    awaitCondition();
                    break;
                case Instruction.NOTIFY:
                case Instruction.NOTIFY_ALL:
                    condition = Memory.addressOf(stack.pop());
                    break;
                default:
                    break;
            }
        }

        private void enterMonitor(int word) {
            monitor = Memory.addressOf(word);
            if (memory.read(monitor) == 0) {
                memory.write(monitor, 1);
            } else {
                blocks = true;
            }
        }

        private void exitMonitor(int word) {
            monitor = Memory.addressOf(word);
            memory.write(monitor, 0);
        }

        private void awaitCondition() {
            int word = memory.read(condition);
            waits = (word & 1) == 0;
            if (!waits) {
                memory.write(condition, word - 1);
            }
        }
    }
}
