/**
 * A shell over a small tree of files. The words in capitals (NODE, LINE, TOKEN, ..) are those of
 * the project's document.
 */
public final class ShellsmithRoom {

    private static final int NONE = -1;

    private static final int NODES = 24;
    private static final int NAMES = 10;
    private static final int FILE_SIZE = 8;
    private static final int LINE_SIZE = 16;
    private static final int FLOW_SIZE = 16;
    private static final int JOBS = 3;
    private static final int HISTORY_SIZE = 12;
    private static final int TOKEN_BOUND = 100;
    private static final int MOST_LINES = 60;
    // Only SORT and SUM stand alone, and never first: 16 TOKENS make no more COMMANDS than this.
    private static final int COMMANDS = 8;

    private static final int ABSENT = 0;
    private static final int DIRECTORY = 1;
    private static final int FILE = 2;

    private static final int UP = 10;
    private static final int STAR = 11;
    private static final int MAKE = 20;
    private static final int WRITE = 21;
    private static final int SHOW = 22;
    private static final int TAKE = 23;
    private static final int GO = 24;
    private static final int SORT = 25;
    private static final int SUM = 26;
    private static final int WAIT = 27;
    private static final int PIPE = 30;
    private static final int AND = 31;
    private static final int OR = 32;
    private static final int BEHIND = 33;
    private static final int NUMBER_BASE = 40;

    private static final int NO_VERB = 1;
    private static final int MISPLACED = 2;
    private static final int MISSING = 3;
    private static final int NO_PIPE = 4;

    private static final int RIGHT = 1;
    private static final int FAILED = 0;
    private static final int FAULTY = -1;

    private final Line typed = new Line();
    private final Line previous = new Line();
    private final Line changed = new Line();
    private final Plan plan = new Plan();
    private final World world = new World();
    private final World scratch = new World();
    private final History history = new History();
    private final Rules rules = new Rules();
    private final int[] uses = new int[TOKEN_BOUND];
    private boolean previousWrong;
    private int linesRun;
    private int jobsEnded;

    public ShellsmithRoom() {
    }

    // ---- lines

    public int token(int token) throws IllegalArgumentException, IllegalStateException {
        if (!isToken(token)) {
            throw new IllegalArgumentException("no TOKEN");
        }
        if (typed.size() >= LINE_SIZE) {
            throw new IllegalStateException("the LINE is full");
        }
        typed.add(token);
        return typed.size();
    }

    public int erase(int many) throws IllegalArgumentException {
        if (many < 1 || many > LINE_SIZE) {
            throw new IllegalArgumentException("not 1 to 16");
        }
        typed.cut(many);
        return typed.size();
    }

    public int written(int k) throws IndexOutOfBoundsException {
        if (k < 0 || k >= typed.size()) {
            throw new IndexOutOfBoundsException("no such place");
        }
        return typed.at(k);
    }

    public int line(int what) throws IllegalArgumentException {
        if (what < 0 || what > 2) {
            throw new IllegalArgumentException("not 0 to 2");
        }
        return aboutLine(what);
    }

    public int run() throws IllegalStateException {
        if (typed.size() == 0) {
            throw new IllegalStateException("the LINE is empty");
        }
        plan.read(typed);
        int verdict = plan.fault == 0 ? runFaultless() : FAULTY;
        if (verdict == FAULTY) {
            world.shell.result.clear();
        }
        if (verdict == RIGHT && previousWrong) {
            rules.learn(previous, typed);
        }
        previousWrong = verdict != RIGHT;
        previous.copyFrom(typed);
        typed.clear();
        return verdict;
    }

    public int output(int k) throws IndexOutOfBoundsException {
        if (k < 0 || k >= world.shell.result.size()) {
            throw new IndexOutOfBoundsException("no such place");
        }
        return world.shell.result.at(k);
    }

    public int complete(int k) throws IndexOutOfBoundsException {
        int found = completion(k);
        if (found == NONE) {
            throw new IndexOutOfBoundsException("no such TOKEN");
        }
        return found;
    }

    // ---- history and rules

    public int kept(int kept, int k) throws IndexOutOfBoundsException {
        Line found = history.lineAt(kept);
        if (found == null) {
            throw new IndexOutOfBoundsException("no such LINE");
        }
        if (k < 0 || k >= found.size()) {
            throw new IndexOutOfBoundsException("no such place");
        }
        return found.at(k);
    }

    public int recall(int kept) throws IndexOutOfBoundsException {
        Line found = history.lineAt(kept);
        if (found == null) {
            throw new IndexOutOfBoundsException("no such LINE");
        }
        typed.copyFrom(found);
        return typed.size();
    }

    public int search(int first, int second) throws IllegalArgumentException {
        if (!isToken(first)) {
            throw new IllegalArgumentException("the first is no TOKEN");
        }
        if (second != NONE && !isToken(second)) {
            throw new IllegalArgumentException("the second is no TOKEN, nor NONE");
        }
        return history.latestWith(first, second);
    }

    public int rule(int token) throws IllegalArgumentException {
        if (!isToken(token)) {
            throw new IllegalArgumentException("no TOKEN");
        }
        return rules.from(token);
    }

    public int correct() {
        if (verdictOn(typed) == RIGHT) {
            return NONE;
        }
        for (int place = 0; place < typed.size(); place++) {
            int better = rules.from(typed.at(place));
            if (better != NONE && verdictWith(place, better) == RIGHT) {
                typed.put(place, better);
                return place;
            }
        }
        return NONE;
    }

    // ---- files and jobs

    public int ofNode(int node, int what) throws IndexOutOfBoundsException, IllegalArgumentException {
        if (node < 0 || node >= NODES) {
            throw new IndexOutOfBoundsException("no such NODE");
        }
        if (what < 0 || what > 3) {
            throw new IllegalArgumentException("not 0 to 3");
        }
        return aboutNode(node, what);
    }

    public int number(int node, int k) throws IndexOutOfBoundsException {
        if (world.tree.kindOf(node) != FILE) {
            throw new IndexOutOfBoundsException("no such FILE");
        }
        if (k < 0 || k >= world.tree.sizeOf(node)) {
            throw new IndexOutOfBoundsException("no such place");
        }
        return world.tree.numberAt(node, k);
    }

    public int ofJob(int job, int what) throws IndexOutOfBoundsException, IllegalArgumentException {
        Course found = world.jobAt(job);
        if (found == null) {
            throw new IndexOutOfBoundsException("no such JOB");
        }
        if (what < 0 || what > 3) {
            throw new IllegalArgumentException("not 0 to 3");
        }
        return found.about(what);
    }

    public int signal(int job, int signal) throws IndexOutOfBoundsException, IllegalArgumentException {
        Course found = world.jobAt(job);
        if (found == null) {
            throw new IndexOutOfBoundsException("no such JOB");
        }
        if (signal < 0 || signal > 2) {
            throw new IllegalArgumentException("not 0 to 2");
        }
        if (signal == 2) {
            found.active = false;
        } else {
            found.held = signal == 0;
        }
        return found.commandsLeft();
    }

    public int many(int what) throws IllegalArgumentException {
        if (what < 0 || what > 9) {
            throw new IllegalArgumentException("not 0 to 9");
        }
        return count(what);
    }

    public double meanNumber() {
        int sum = 0;
        int size = 0;
        for (int node = 0; node < NODES; node++) {
            sum += world.tree.sumOf(node);
            size += world.tree.sizeOf(node);
        }
        return size > 0 ? (double) sum / (double) size : 0.0;
    }

    // ---- what would be (nothing is changed)

    public int dry(int what) throws IllegalArgumentException {
        if (what < 0 || what > 6) {
            throw new IllegalArgumentException("not 0 to 6");
        }
        return aboutDryRun(what);
    }

    public int dryWith(int place, int token) throws IndexOutOfBoundsException, IllegalArgumentException {
        if (place < 0 || place >= typed.size()) {
            throw new IndexOutOfBoundsException("no such place");
        }
        if (!isToken(token)) {
            throw new IllegalArgumentException("no TOKEN");
        }
        return verdictWith(place, token);
    }

    public int overIn(int lines) throws IllegalArgumentException {
        if (lines < 1 || lines > MOST_LINES) {
            throw new IllegalArgumentException("not 1 to 60");
        }
        return jobsOverWithin(lines);
    }

    public int far(int node) throws IndexOutOfBoundsException {
        if (node < 0 || node >= NODES) {
            throw new IndexOutOfBoundsException("no such NODE");
        }
        return world.tree.distance(world.shell.working, node);
    }

    public long digest() {
        long d = 5752L;
        for (int what = 0; what <= 9; what++) {
            d = d * 31L + count(what);
        }
        d = digestOfNodes(d);
        d = digestOfJobs(d);
        d = digestOfLine(d, typed);
        for (int what = 0; what <= 2; what++) {
            d = d * 31L + aboutLine(what);
        }
        for (int what = 0; what <= 6; what++) {
            d = d * 31L + aboutDryRun(what);
        }
        for (int k = 0; k < world.shell.result.size(); k++) {
            d = d * 31L + world.shell.result.at(k);
        }
        for (int kept = 0; kept < history.size(); kept++) {
            d = digestOfLine(d, history.lineAt(kept));
        }
        for (int token = 0; token < TOKEN_BOUND; token++) {
            if (isToken(token)) {
                d = d * 31L + rules.from(token);
            }
        }
        return d * 31L + jobsOverWithin(5);
    }

    // ---- behind the face

    private static boolean isToken(int token) {
        return token >= 0 && token <= STAR
                || token >= MAKE && token <= WAIT
                || isJoin(token)
                || token >= NUMBER_BASE && token < TOKEN_BOUND;
    }

    private static boolean isJoin(int token) {
        return token >= PIPE && token <= BEHIND;
    }

    private int aboutLine(int what) {
        plan.read(typed);
        if (what == 0) {
            return plan.fault;
        }
        return what == 1 ? plan.place : plan.commands;
    }

    private int runFaultless() {
        jobsEnded += world.stepJobs();
        linesRun++;
        history.keep(typed);
        if (!plan.endsBehind) {
            return world.runWhole(plan);
        }
        world.shell.result.clear();
        return world.startJob(plan) ? RIGHT : FAILED;
    }

    private int completion(int k) {
        if (k < 0 || k >= TOKEN_BOUND || typed.size() >= LINE_SIZE) {
            return NONE;
        }
        countUses();
        int best = mostUsed();
        for (int ahead = 0; ahead < k; ahead++) {
            if (best < 0 || best >= TOKEN_BOUND) {
                return NONE;
            }
            uses[best] = NONE;
            best = mostUsed();
        }
        return best;
    }

    private void countUses() {
        int last = typed.at(typed.size() - 1);
        for (int token = 0; token < TOKEN_BOUND; token++) {
            uses[token] = isToken(token) && canCome(token) ? history.timesBehind(last, token) : NONE;
        }
    }

    private boolean canCome(int token) {
        changed.copyFrom(typed);
        changed.add(token);
        plan.read(changed);
        return plan.fault == 0 || plan.fault == MISSING && plan.place == changed.size();
    }

    /** Answers a TOKEN that is an index of uses, or NONE. */
    private int mostUsed() {
        int best = NONE;
        int most = NONE;
        for (int token = 0; token < TOKEN_BOUND; token++) {
            if (uses[token] > most) {
                most = uses[token];
                best = token;
            }
        }
        return best;
    }

    private int verdictOn(Line words) {
        plan.read(words);
        scratch.copyFrom(world);
        return scratch.runWhole(plan);
    }

    private int verdictWith(int place, int token) {
        changed.copyFrom(typed);
        changed.put(place, token);
        return verdictOn(changed);
    }

    private int aboutNode(int node, int what) {
        switch (what) {
            case 0:
                return world.tree.kindOf(node);
            case 1:
                return world.tree.nameOf(node);
            case 2:
                return world.tree.parentOf(node);
            default:
                return world.tree.kindOf(node) == FILE ? world.tree.sizeOf(node) : world.tree.childrenOf(node);
        }
    }

    private int count(int what) {
        switch (what) {
            case 0:
                return world.tree.countOf(DIRECTORY) + world.tree.countOf(FILE);
            case 1:
                return world.tree.countOf(FILE);
            case 2:
                return world.shell.working;
            case 3:
                return world.jobCount();
            case 4:
                return history.size();
            case 5:
                return rules.size();
            case 6:
                return typed.size();
            case 7:
                return world.shell.result.size();
            case 8:
                return linesRun;
            default:
                return jobsEnded;
        }
    }

    private int aboutDryRun(int what) {
        int verdict = verdictOn(typed);
        switch (what) {
            case 0:
                return verdict;
            case 1:
                return world.tree.missingFrom(scratch.tree);
            case 2:
                return scratch.tree.missingFrom(world.tree);
            case 3:
                return world.tree.filesUnlike(scratch.tree);
            case 4:
                return scratch.shell.working;
            case 5:
                return scratch.shell.result.size();
            default:
                return scratch.shell.result.sum();
        }
    }

    private int jobsOverWithin(int lines) {
        scratch.copyFrom(world);
        int over = 0;
        for (int run = 0; run < lines; run++) {
            over += scratch.stepJobs();
        }
        return over;
    }

    private long digestOfNodes(long before) {
        long d = before;
        for (int node = 0; node < NODES; node++) {
            for (int what = 0; what <= 3; what++) {
                d = d * 31L + aboutNode(node, what);
            }
            d = d * 31L + world.tree.distance(world.shell.working, node);
            for (int k = 0; k < world.tree.sizeOf(node); k++) {
                d = d * 31L + world.tree.numberAt(node, k);
            }
        }
        return d;
    }

    private long digestOfJobs(long before) {
        long d = before;
        for (int job = 0; job < JOBS; job++) {
            Course found = world.jobAt(job);
            for (int what = 0; found != null && what <= 3; what++) {
                d = d * 31L + found.about(what);
            }
        }
        return d;
    }

    private static long digestOfLine(long before, Line words) {
        long d = before;
        for (int k = 0; words != null && k < words.size(); k++) {
            d = d * 31L + words.at(k);
        }
        return d;
    }

    /** A LINE: its TOKENS. Beyond its ends stands NONE. */
    private static final class Line {
        private final int[] tokens = new int[LINE_SIZE];
        private int size;

        int size() {
            return size;
        }

        int at(int place) {
            return place >= 0 && place < size && place < LINE_SIZE ? tokens[place] : NONE;
        }

        void put(int place, int token) {
            if (place >= 0 && place < size && place < LINE_SIZE) {
                tokens[place] = token;
            }
        }

        void add(int token) {
            if (size >= 0 && size < LINE_SIZE) {
                tokens[size] = token;
                size++;
            }
        }

        void cut(int many) {
            size = Math.max(0, size - many);
        }

        void clear() {
            size = 0;
        }

        void copyFrom(Line other) {
            System.arraycopy(other.tokens, 0, tokens, 0, LINE_SIZE);
            size = other.size;
        }
    }

    /** What goes into a COMMAND or comes out of it. */
    private static final class Flow {
        private final int[] numbers = new int[FLOW_SIZE];
        private int size;

        int size() {
            return size;
        }

        int at(int k) {
            return k >= 0 && k < size && k < FLOW_SIZE ? numbers[k] : 0;
        }

        void add(int number) {
            if (size >= 0 && size < FLOW_SIZE) {
                numbers[size] = number;
                size++;
            }
        }

        void clear() {
            size = 0;
        }

        void copyFrom(Flow other) {
            System.arraycopy(other.numbers, 0, numbers, 0, FLOW_SIZE);
            size = other.size;
        }

        int sum() {
            int sum = 0;
            for (int k = 0; k < size; k++) {
                sum += at(k);
            }
            return sum;
        }

        void sort() {
            for (int end = 1; end < size && end < FLOW_SIZE; end++) {
                int moving = numbers[end];
                int place = end;
                while (place > 0 && numbers[place - 1] > moving) {
                    numbers[place] = numbers[place - 1];
                    place--;
                }
                numbers[place] = moving;
            }
        }
    }

    /** A LINE as it is read: its FAULT, or where each of its COMMANDS begins. */
    private static final class Plan {
        private final Line words = new Line();
        private final int[] begins = new int[COMMANDS];
        private int commands;
        private int fault;
        private int place;
        private boolean endsBehind;

        void read(Line from) {
            words.copyFrom(from);
            commands = 0;
            fault = 0;
            place = NONE;
            endsBehind = false;
            int begin = 0;
            for (int turn = 0; turn <= LINE_SIZE && begin != NONE; turn++) {
                begin = readCommand(begin);
            }
            if (fault != 0) {
                commands = 0;
            }
        }

        /** Answers where the next COMMAND has to begin; NONE at the LINE's end and at a FAULT. */
        private int readCommand(int begin) {
            int verb = words.at(begin);
            if (verb == NONE) {
                return blame(MISSING, begin);
            }
            if (verb < MAKE || verb > WAIT) {
                return blame(NO_VERB, begin);
            }
            if ((verb == SORT || verb == SUM) && words.at(begin - 1) != PIPE) {
                return blame(NO_PIPE, begin);
            }
            int end = begin + 1;
            int numbers = 0;
            while (end < words.size() && !isJoin(words.at(end))) {
                if (!fits(verb, words.at(end - 1), words.at(end), numbers)) {
                    return blame(MISPLACED, end);
                }
                numbers += words.at(end) >= NUMBER_BASE ? 1 : 0;
                end++;
            }
            if (end == begin + 1 && verb != SORT && verb != SUM) {
                return blame(MISSING, end);
            }
            note(begin);
            return behindCommand(end);
        }

        /** Whether the TOKEN can stand there as an ARGUMENT; the first one stands before the VERB. */
        private static boolean fits(int verb, int before, int token, int numbers) {
            if (verb == SORT || verb == SUM) {
                return false;
            }
            if (verb == WAIT) {
                return before == WAIT && token > NUMBER_BASE && token <= NUMBER_BASE + 9;
            }
            boolean pathGoesOn = before == verb || before <= UP;
            if (token <= UP) {
                return pathGoesOn;
            }
            if (token == STAR) {
                return pathGoesOn && (verb == SHOW || verb == TAKE);
            }
            return token >= NUMBER_BASE && verb == WRITE && before != verb && numbers < FILE_SIZE;
        }

        private int behindCommand(int end) {
            int join = words.at(end);
            if (join == NONE) {
                return NONE;
            }
            if (join != BEHIND) {
                return end + 1;
            }
            if (end + 1 < words.size()) {
                return blame(MISPLACED, end);
            }
            endsBehind = true;
            return NONE;
        }

        private int blame(int kind, int where) {
            fault = kind;
            place = where;
            return NONE;
        }

        private void note(int begin) {
            if (commands >= 0 && commands < COMMANDS) {
                begins[commands] = begin;
                commands++;
            }
        }

        int beginOf(int command) {
            return command >= 0 && command < commands && command < COMMANDS ? begins[command] : NONE;
        }

        int verbOf(int command) {
            return words.at(beginOf(command));
        }

        int joinAhead(int command) {
            return words.at(beginOf(command) - 1);
        }

        int stepsOf(int command) {
            int begin = beginOf(command);
            return words.at(begin) == WAIT ? words.at(begin + 1) - NUMBER_BASE : 1;
        }

        int lastOfPath(int command) {
            int last = beginOf(command);
            while (last + 1 < words.size() && words.at(last + 1) <= STAR) {
                last++;
            }
            return last;
        }

        /** The COMMAND that is to be run behind one that was run; as many as there are, if none is. */
        int following(int ran, boolean right) {
            if (joinAhead(ran + 1) == PIPE) {
                return ran + 1;
            }
            int wanted = right ? AND : OR;
            for (int command = ran + 1; command < commands; command++) {
                if (joinAhead(command) == wanted) {
                    return command;
                }
            }
            return commands;
        }

        void copyFrom(Plan other) {
            words.copyFrom(other.words);
            System.arraycopy(other.begins, 0, begins, 0, COMMANDS);
            commands = other.commands;
            fault = other.fault;
            place = other.place;
            endsBehind = other.endsBehind;
        }
    }

    /** The NODES. */
    private static final class Tree {
        private final int[] kinds = new int[NODES];
        private final int[] names = new int[NODES];
        private final int[] parents = new int[NODES];
        private final int[] sizes = new int[NODES];
        private final int[] numbers = new int[NODES * FILE_SIZE];

        Tree() {
            for (int node = 0; node < NODES; node++) {
                names[node] = NONE;
                parents[node] = NONE;
            }
            kinds[0] = DIRECTORY;
        }

        int kindOf(int node) {
            return node >= 0 && node < NODES ? kinds[node] : ABSENT;
        }

        int nameOf(int node) {
            return node >= 0 && node < NODES ? names[node] : NONE;
        }

        int parentOf(int node) {
            return node >= 0 && node < NODES ? parents[node] : NONE;
        }

        int sizeOf(int node) {
            return node >= 0 && node < NODES ? sizes[node] : 0;
        }

        int numberAt(int node, int k) {
            return node >= 0 && node < NODES && k >= 0 && k < FILE_SIZE ? numbers[node * FILE_SIZE + k] : 0;
        }

        int sumOf(int node) {
            int sum = 0;
            for (int k = 0; k < sizeOf(node); k++) {
                sum += numberAt(node, k);
            }
            return sum;
        }

        int countOf(int kind) {
            int found = 0;
            for (int node = 0; node < NODES; node++) {
                found += kinds[node] == kind ? 1 : 0;
            }
            return found;
        }

        int childrenOf(int directory) {
            int found = 0;
            for (int node = 1; node < NODES; node++) {
                found += kinds[node] != ABSENT && parents[node] == directory ? 1 : 0;
            }
            return found;
        }

        int child(int directory, int name) {
            for (int node = 1; node < NODES; node++) {
                if (kinds[node] != ABSENT && parents[node] == directory && names[node] == name) {
                    return node;
                }
            }
            return NONE;
        }

        /** Where one comes by the TOKENS from first on that stand before end; NONE if nowhere. */
        int walk(int from, Line words, int first, int end) {
            int here = from;
            for (int place = first; place < end && here != NONE; place++) {
                int token = words.at(place);
                if (token != UP) {
                    here = child(here, token);
                } else if (here != 0) {
                    here = parentOf(here);
                }
            }
            return here;
        }

        /** Answers NONE if all NODES are there. */
        int create(int kind, int directory, int name) {
            for (int node = 1; node < NODES; node++) {
                if (kinds[node] == ABSENT) {
                    kinds[node] = kind;
                    names[node] = name;
                    parents[node] = directory;
                    sizes[node] = 0;
                    return node;
                }
            }
            return NONE;
        }

        void drop(int node) {
            if (node > 0 && node < NODES) {
                kinds[node] = ABSENT;
                names[node] = NONE;
                parents[node] = NONE;
                sizes[node] = 0;
            }
        }

        void empty(int file) {
            if (file >= 0 && file < NODES) {
                sizes[file] = 0;
            }
        }

        void append(int file, int number) {
            int size = sizeOf(file);
            if (file >= 0 && file < NODES && size >= 0 && size < FILE_SIZE) {
                numbers[file * FILE_SIZE + size] = number;
                sizes[file] = size + 1;
            }
        }

        int distance(int from, int to) {
            if (kindOf(to) == ABSENT) {
                return NONE;
            }
            int high = from;
            for (int up = 0; up < NODES && high != NONE; up++) {
                int low = to;
                for (int down = 0; down < NODES && low != NONE; down++) {
                    if (low == high) {
                        return up + down;
                    }
                    low = parentOf(low);
                }
                high = parentOf(high);
            }
            return NONE;
        }

        /** How many NODES are not there that are there in the other. */
        int missingFrom(Tree other) {
            int found = 0;
            for (int node = 0; node < NODES; node++) {
                found += kinds[node] == ABSENT && other.kinds[node] != ABSENT ? 1 : 0;
            }
            return found;
        }

        /** How many FILES have other NUMBERS than those of the same NODES in the other. */
        int filesUnlike(Tree other) {
            int found = 0;
            for (int node = 0; node < NODES; node++) {
                boolean bothFiles = kinds[node] == FILE && other.kinds[node] == FILE;
                found += bothFiles && !sameNumbers(other, node) ? 1 : 0;
            }
            return found;
        }

        private boolean sameNumbers(Tree other, int node) {
            if (sizeOf(node) != other.sizeOf(node)) {
                return false;
            }
            for (int k = 0; k < sizeOf(node); k++) {
                if (numberAt(node, k) != other.numberAt(node, k)) {
                    return false;
                }
            }
            return true;
        }

        void copyFrom(Tree other) {
            System.arraycopy(other.kinds, 0, kinds, 0, NODES);
            System.arraycopy(other.names, 0, names, 0, NODES);
            System.arraycopy(other.parents, 0, parents, 0, NODES);
            System.arraycopy(other.sizes, 0, sizes, 0, NODES);
            System.arraycopy(other.numbers, 0, numbers, 0, NODES * FILE_SIZE);
        }
    }

    /** A LINE on its way, COMMAND by COMMAND: that of the shell, or of a JOB. */
    private static final class Course {
        private final Plan plan = new Plan();
        private final Flow result = new Flow();
        private int working;
        private int next;
        private int steps;
        private boolean right;
        private boolean held;
        private boolean active;

        void begin(Plan from) {
            plan.copyFrom(from);
            result.clear();
            next = 0;
            steps = plan.stepsOf(0);
            right = false;
            held = false;
        }

        int commandsLeft() {
            return plan.commands - next;
        }

        int about(int what) {
            switch (what) {
                case 0:
                    return commandsLeft();
                case 1:
                    return steps;
                case 2:
                    return held ? 1 : 0;
                default:
                    return working;
            }
        }

        void copyFrom(Course other) {
            plan.copyFrom(other.plan);
            result.copyFrom(other.result);
            working = other.working;
            next = other.next;
            steps = other.steps;
            right = other.right;
            held = other.held;
            active = other.active;
        }
    }

    /** All that running a LINE can change: a second one is what a dry run is tried on. */
    private static final class World {
        private final Tree tree = new Tree();
        private final Course shell = new Course();
        private final Course[] jobs = new Course[JOBS];
        private final Flow input = new Flow();

        World() {
            for (int job = 0; job < JOBS; job++) {
                jobs[job] = new Course();
            }
        }

        /** Answers null if there is no such JOB. */
        Course jobAt(int job) {
            if (job < 0 || job >= JOBS) {
                return null;
            }
            Course found = jobs[job];
            return found != null && found.active ? found : null;
        }

        int jobCount() {
            int found = 0;
            for (int job = 0; job < JOBS; job++) {
                found += jobAt(job) != null ? 1 : 0;
            }
            return found;
        }

        boolean startJob(Plan plan) {
            for (int job = 0; job < JOBS; job++) {
                Course free = jobs[job];
                if (free != null && !free.active) {
                    free.begin(plan);
                    free.working = shell.working;
                    free.active = true;
                    return true;
                }
            }
            return false;
        }

        /** Answers how many JOBS were over by it. */
        int stepJobs() {
            int over = 0;
            for (int number = 0; number < JOBS; number++) {
                Course job = jobAt(number);
                if (job != null && !job.held) {
                    job.steps--;
                    if (job.steps <= 0) {
                        runNext(job);
                    }
                    job.active = job.commandsLeft() > 0;
                    over += job.active ? 0 : 1;
                }
            }
            return over;
        }

        int runWhole(Plan plan) {
            shell.begin(plan);
            if (plan.fault != 0) {
                return FAULTY;
            }
            for (int turn = 0; turn < COMMANDS && shell.commandsLeft() > 0; turn++) {
                runNext(shell);
            }
            return shell.right ? RIGHT : FAILED;
        }

        private void runNext(Course course) {
            if (course.plan.joinAhead(course.next) == PIPE) {
                input.copyFrom(course.result);
            } else {
                input.clear();
            }
            course.result.clear();
            int first = course.plan.beginOf(course.next) + 1;
            int last = course.plan.lastOfPath(course.next);
            boolean starred = course.plan.words.at(last) == STAR;
            boolean right = true;
            switch (course.plan.verbOf(course.next)) {
                case MAKE:
                    right = makeDirectory(course, first, last);
                    break;
                case WRITE:
                    right = writeFile(course, first, last);
                    break;
                case SHOW:
                    right = starred ? showFiles(course, first, last) : show(course, first, last);
                    break;
                case TAKE:
                    right = starred ? takeFiles(course, first, last) : take(course, first, last);
                    break;
                case GO:
                    right = goTo(course, first, last);
                    break;
                case SUM:
                    course.result.add(input.sum() % 100);
                    break;
                case SORT:
                    course.result.copyFrom(input);
                    course.result.sort();
                    break;
                default:
                    course.result.copyFrom(input);
                    break;
            }
            course.right = right;
            course.next = course.plan.following(course.next, right);
            course.steps = course.plan.stepsOf(course.next);
        }

        private boolean makeDirectory(Course course, int first, int last) {
            int directory = tree.walk(course.working, course.plan.words, first, last);
            int name = course.plan.words.at(last);
            if (tree.kindOf(directory) != DIRECTORY || name == UP || tree.child(directory, name) != NONE) {
                return false;
            }
            return tree.create(DIRECTORY, directory, name) != NONE;
        }

        private boolean writeFile(Course course, int first, int last) {
            Line words = course.plan.words;
            int directory = tree.walk(course.working, words, first, last);
            int name = words.at(last);
            if (tree.kindOf(directory) != DIRECTORY || name == UP) {
                return false;
            }
            int file = tree.child(directory, name);
            if (file == NONE) {
                file = tree.create(FILE, directory, name);
            }
            if (tree.kindOf(file) != FILE) {
                return false;
            }
            tree.empty(file);
            for (int place = last + 1; place < words.size() && words.at(place) >= NUMBER_BASE; place++) {
                tree.append(file, words.at(place) - NUMBER_BASE);
            }
            for (int k = 0; k < input.size(); k++) {
                tree.append(file, input.at(k));
            }
            return true;
        }

        private boolean show(Course course, int first, int last) {
            int node = tree.walk(course.working, course.plan.words, first, last + 1);
            if (tree.kindOf(node) == FILE) {
                showNumbers(course.result, node);
            } else {
                for (int name = 0; name < NAMES; name++) {
                    if (tree.child(node, name) != NONE) {
                        course.result.add(name);
                    }
                }
            }
            return node != NONE;
        }

        private boolean showFiles(Course course, int first, int last) {
            int directory = tree.walk(course.working, course.plan.words, first, last);
            boolean any = false;
            for (int name = 0; name < NAMES; name++) {
                int node = tree.child(directory, name);
                if (tree.kindOf(node) == FILE) {
                    showNumbers(course.result, node);
                    any = true;
                }
            }
            return any;
        }

        private void showNumbers(Flow result, int file) {
            for (int k = 0; k < tree.sizeOf(file); k++) {
                result.add(tree.numberAt(file, k));
            }
        }

        private boolean take(Course course, int first, int last) {
            int node = tree.walk(course.working, course.plan.words, first, last + 1);
            if (node == NONE || node == 0 || tree.childrenOf(node) > 0 || isWorking(node)) {
                return false;
            }
            tree.drop(node);
            return true;
        }

        private boolean takeFiles(Course course, int first, int last) {
            int directory = tree.walk(course.working, course.plan.words, first, last);
            boolean any = false;
            for (int name = 0; name < NAMES; name++) {
                int node = tree.child(directory, name);
                if (tree.kindOf(node) == FILE) {
                    tree.drop(node);
                    any = true;
                }
            }
            return any;
        }

        private boolean isWorking(int node) {
            boolean found = shell.working == node;
            for (int number = 0; number < JOBS; number++) {
                Course job = jobAt(number);
                found = found || job != null && job.working == node;
            }
            return found;
        }

        private boolean goTo(Course course, int first, int last) {
            int node = tree.walk(course.working, course.plan.words, first, last + 1);
            if (tree.kindOf(node) != DIRECTORY) {
                return false;
            }
            course.working = node;
            return true;
        }

        void copyFrom(World other) {
            tree.copyFrom(other.tree);
            shell.copyFrom(other.shell);
            for (int job = 0; job < JOBS; job++) {
                Course to = jobs[job];
                Course from = other.jobs[job];
                if (to != null && from != null) {
                    to.copyFrom(from);
                }
            }
        }
    }

    /** The KEPT LINES, the latest one first. */
    private static final class History {
        private final Line[] lines = new Line[HISTORY_SIZE];
        private int size;

        History() {
            for (int kept = 0; kept < HISTORY_SIZE; kept++) {
                lines[kept] = new Line();
            }
        }

        int size() {
            return size;
        }

        /** Answers null if there is no such LINE. */
        Line lineAt(int kept) {
            return kept >= 0 && kept < size && kept < HISTORY_SIZE ? lines[kept] : null;
        }

        void keep(Line words) {
            Line oldest = lines[HISTORY_SIZE - 1];
            for (int kept = HISTORY_SIZE - 1; kept > 0; kept--) {
                lines[kept] = lines[kept - 1];
            }
            lines[0] = oldest;
            if (oldest != null) {
                oldest.copyFrom(words);
            }
            size = Math.min(size + 1, HISTORY_SIZE);
        }

        int latestWith(int first, int second) {
            for (int kept = 0; kept < size; kept++) {
                Line words = lineAt(kept);
                for (int k = 0; words != null && k < words.size(); k++) {
                    if (words.at(k) == first && (second == NONE || words.at(k + 1) == second)) {
                        return kept;
                    }
                }
            }
            return NONE;
        }

        /** How often the TOKEN stands directly behind another one; at the beginning, if that is NONE. */
        int timesBehind(int before, int token) {
            int found = 0;
            for (int kept = 0; kept < size; kept++) {
                Line words = lineAt(kept);
                for (int k = 0; words != null && k < words.size(); k++) {
                    found += words.at(k) == token && words.at(k - 1) == before ? 1 : 0;
                }
            }
            return found;
        }
    }

    /** The RULES, by the TOKEN that they are from. */
    private static final class Rules {
        private final int[] better = new int[TOKEN_BOUND];

        Rules() {
            for (int token = 0; token < TOKEN_BOUND; token++) {
                better[token] = NONE;
            }
        }

        int from(int token) {
            return token >= 0 && token < TOKEN_BOUND ? better[token] : NONE;
        }

        int size() {
            int found = 0;
            for (int token = 0; token < TOKEN_BOUND; token++) {
                found += better[token] != NONE ? 1 : 0;
            }
            return found;
        }

        void learn(Line wrong, Line right) {
            int differences = wrong.size() == right.size() ? 0 : NONE;
            int place = NONE;
            for (int k = 0; k < right.size(); k++) {
                if (differences != NONE && wrong.at(k) != right.at(k)) {
                    differences++;
                    place = k;
                }
            }
            int token = wrong.at(place);
            if (differences == 1 && token >= 0 && token < TOKEN_BOUND) {
                better[token] = right.at(place);
            }
        }
    }
}
