import java.util.ArrayList;
import java.util.Collections;
import java.util.Comparator;
import java.util.List;
import java.util.Map;
import java.util.TreeMap;
import java.util.regex.Matcher;
import java.util.regex.Pattern;

/**
 * A second reading of the document, slow and plain: objects in maps, LINES as texts that a regular
 * expression knows, dry runs on whole copies. It shares no code with the class that it is held against.
 */
final class Model {
    private static final String PATH = "[NU]+";
    private static final String SIMPLE = "(?:[MG]" + PATH + "|W" + PATH + "[nz]{0,8}|[HK](?:" + PATH + "S?|S)|Zn)";
    private static final String PIPED = "(?:" + SIMPLE + "|R|T)";
    private static final Pattern WHOLE = Pattern.compile(SIMPLE + "(?:P" + PIPED + "|[AO]" + SIMPLE + ")*B?");

    private static final class Node {
        boolean directory;
        int name = -1;
        int parent = -1;
        List<Integer> numbers = new ArrayList<>();

        Node copy() {
            Node other = new Node();
            other.directory = directory;
            other.name = name;
            other.parent = parent;
            other.numbers = new ArrayList<>(numbers);
            return other;
        }
    }

    /** One COMMAND: the JOIN ahead of it (0 for none), and its TOKENS. */
    private record Command(int join, List<Integer> words) {
        int verb() {
            return words.get(0);
        }
    }

    private static final class Job {
        List<Command> left;
        int steps;
        int working;
        boolean held;
        List<Integer> result = new ArrayList<>();

        Job copy() {
            Job other = new Job();
            other.left = new ArrayList<>(left);
            other.steps = steps;
            other.working = working;
            other.held = held;
            other.result = new ArrayList<>(result);
            return other;
        }
    }

    private TreeMap<Integer, Node> nodes = new TreeMap<>();
    private TreeMap<Integer, Job> jobs = new TreeMap<>();
    private int working;
    private List<Integer> line = new ArrayList<>();
    private List<Integer> result = new ArrayList<>();
    private List<List<Integer>> kept = new ArrayList<>();
    private Map<Integer, Integer> rules = new TreeMap<>();
    private List<Integer> wrong;
    private int ran;
    private int over;

    Model() {
        Node root = new Node();
        root.directory = true;
        nodes.put(0, root);
    }

    /** Files, JOBS and the LINE alone: what a dry run needs. */
    private Model copy() {
        Model other = new Model();
        other.nodes.clear();
        for (Map.Entry<Integer, Node> entry : nodes.entrySet()) {
            other.nodes.put(entry.getKey(), entry.getValue().copy());
        }
        for (Map.Entry<Integer, Job> entry : jobs.entrySet()) {
            other.jobs.put(entry.getKey(), entry.getValue().copy());
        }
        other.working = working;
        other.line = new ArrayList<>(line);
        return other;
    }

    // ---- reading a LINE

    private static boolean isToken(int token) {
        return token >= 0 && token < 100 && letter(token) != '?';
    }

    private static char letter(int token) {
        if (token < 10) {
            return 'N';
        }
        if (token >= 40) {
            return token >= 41 && token <= 49 ? 'n' : 'z';
        }
        return "US????????MWHKGRTZ??PAOB??????".charAt(token - 10);
    }

    private static String letters(List<Integer> words) {
        StringBuilder all = new StringBuilder();
        for (int token : words) {
            all.append(letter(token));
        }
        return all.toString();
    }

    private static boolean canGoOn(String text) {
        Matcher matcher = WHOLE.matcher(text);
        return matcher.matches() || matcher.hitEnd();
    }

    /** The FAULT and its place. */
    private static int[] fault(List<Integer> words) {
        String text = letters(words);
        if (WHOLE.matcher(text).matches()) {
            return new int[] {0, -1};
        }
        for (int k = 0; k < text.length(); k++) {
            if (!canGoOn(text.substring(0, k + 1))) {
                return faultAt(text, k);
            }
        }
        return new int[] {3, text.length()};
    }

    private static int[] faultAt(String text, int k) {
        char sign = text.charAt(k);
        char ahead = k == 0 ? 'A' : text.charAt(k - 1);
        if (ahead == 'B') {
            return new int[] {2, k - 1};
        }
        if ("PAO".indexOf(ahead) >= 0) {
            return new int[] {"RT".indexOf(sign) >= 0 ? 4 : 1, k};
        }
        return new int[] {"PAOB".indexOf(sign) >= 0 ? 3 : 2, k};
    }

    private static List<Command> commands(List<Integer> words) {
        List<Command> all = new ArrayList<>();
        List<Integer> current = new ArrayList<>();
        int join = 0;
        for (int token : words) {
            if (token >= 30 && token <= 33) {
                all.add(new Command(join, current));
                current = new ArrayList<>();
                join = token;
            } else {
                current.add(token);
            }
        }
        if (!current.isEmpty()) {
            all.add(new Command(join, current));
        }
        return all;
    }

    // ---- files

    private Integer child(Integer directory, int name) {
        for (Map.Entry<Integer, Node> entry : nodes.entrySet()) {
            if (entry.getValue().name == name && directory != null && entry.getValue().parent == directory) {
                return entry.getKey();
            }
        }
        return null;
    }

    private TreeMap<Integer, Integer> childrenByName(int directory) {
        TreeMap<Integer, Integer> all = new TreeMap<>();
        for (Map.Entry<Integer, Node> entry : nodes.entrySet()) {
            if (entry.getValue().parent == directory) {
                all.put(entry.getValue().name, entry.getKey());
            }
        }
        return all;
    }

    private Integer follow(Integer from, List<Integer> path) {
        if (path.isEmpty() || from == null) {
            return from;
        }
        int token = path.get(0);
        Integer next;
        if (token == 10) {
            next = from == 0 ? Integer.valueOf(0) : Integer.valueOf(nodes.get(from).parent);
        } else {
            next = child(from, token);
        }
        return follow(next, path.subList(1, path.size()));
    }

    private boolean isDirectory(Integer node) {
        return node != null && nodes.get(node).directory;
    }

    private Integer create(boolean directory, int parent, int name) {
        for (int node = 0; node < 24; node++) {
            if (!nodes.containsKey(node)) {
                Node made = new Node();
                made.directory = directory;
                made.parent = parent;
                made.name = name;
                nodes.put(node, made);
                return node;
            }
        }
        return null;
    }

    private List<Integer> filesOf(Integer directory) {
        List<Integer> all = new ArrayList<>();
        if (isDirectory(directory)) {
            for (int node : childrenByName(directory).values()) {
                if (!nodes.get(node).directory) {
                    all.add(node);
                }
            }
        }
        return all;
    }

    // ---- running

    /** Where one is and what came out; null as result if it FAILED. */
    private record Done(int working, List<Integer> result) {
    }

    private Done perform(Command command, int from, List<Integer> input) {
        List<Integer> path = new ArrayList<>();
        List<Integer> numbers = new ArrayList<>();
        for (int token : command.words().subList(1, command.words().size())) {
            (token < 20 ? path : numbers).add(token < 20 ? token : token - 40);
        }
        List<Integer> none = new ArrayList<>();
        List<Integer> out;
        switch (command.verb()) {
            case 20: return new Done(from, make(from, path) ? none : null);
            case 21: return new Done(from, write(from, path, numbers, input) ? none : null);
            case 22: out = show(from, path); break;
            case 23: return new Done(from, take(from, path) ? none : null);
            case 24:
                Integer to = follow(from, path);
                return isDirectory(to) ? new Done(to, none) : new Done(from, null);
            case 25:
                out = new ArrayList<>(input);
                Collections.sort(out);
                break;
            case 26:
                out = new ArrayList<>();
                out.add(input.stream().mapToInt(Integer::intValue).sum() % 100);
                break;
            default: out = input; break;
        }
        return new Done(from, out == null ? null : new ArrayList<>(out.subList(0, Math.min(16, out.size()))));
    }

    private boolean make(int from, List<Integer> path) {
        Integer way = follow(from, path.subList(0, path.size() - 1));
        int name = path.get(path.size() - 1);
        return isDirectory(way) && name != 10 && child(way, name) == null && create(true, way, name) != null;
    }

    private boolean write(int from, List<Integer> path, List<Integer> numbers, List<Integer> input) {
        Integer way = follow(from, path.subList(0, path.size() - 1));
        int name = path.get(path.size() - 1);
        if (!isDirectory(way) || name == 10) {
            return false;
        }
        Integer file = child(way, name) == null ? create(false, way, name) : child(way, name);
        if (file == null || isDirectory(file)) {
            return false;
        }
        List<Integer> all = new ArrayList<>(numbers);
        all.addAll(input);
        nodes.get(file).numbers = new ArrayList<>(all.subList(0, Math.min(8, all.size())));
        return true;
    }

    private List<Integer> show(int from, List<Integer> path) {
        if (path.get(path.size() - 1) == 11) {
            List<Integer> files = filesOf(follow(from, path.subList(0, path.size() - 1)));
            List<Integer> all = new ArrayList<>();
            for (int file : files) {
                all.addAll(nodes.get(file).numbers);
            }
            return files.isEmpty() ? null : all;
        }
        Integer node = follow(from, path);
        if (node == null) {
            return null;
        }
        return isDirectory(node) ? new ArrayList<>(childrenByName(node).keySet()) : nodes.get(node).numbers;
    }

    private boolean take(int from, List<Integer> path) {
        if (path.get(path.size() - 1) == 11) {
            List<Integer> files = filesOf(follow(from, path.subList(0, path.size() - 1)));
            nodes.keySet().removeAll(files);
            return !files.isEmpty();
        }
        Integer node = follow(from, path);
        if (node == null || node == 0 || node == working || !childrenByName(node).isEmpty()) {
            return false;
        }
        for (Job job : jobs.values()) {
            if (job.working == node) {
                return false;
            }
        }
        nodes.remove(node);
        return true;
    }

    /** Runs the LINE at once; answers whether it was RIGHT. */
    private boolean runAtOnce(List<Integer> words) {
        boolean right = true;
        boolean skipping = false;
        result = new ArrayList<>();
        for (Command command : commands(words)) {
            if (command.join() == 31 || command.join() == 32) {
                skipping = right != (command.join() == 31);
            }
            if (!skipping) {
                Done done = perform(command, working, command.join() == 30 ? result : new ArrayList<>());
                working = done.working();
                right = done.result() != null;
                result = right ? done.result() : new ArrayList<>();
            }
        }
        return right;
    }

    private void stepAll() {
        for (int number = 0; number < 3; number++) {
            Job job = jobs.get(number);
            if (job != null && !job.held && --job.steps == 0) {
                stepOver(number, job);
            }
        }
    }

    private void stepOver(int number, Job job) {
        Command command = job.left.remove(0);
        Done done = perform(command, job.working, command.join() == 30 ? job.result : new ArrayList<>());
        boolean right = done.result() != null;
        job.working = done.working();
        job.result = right ? done.result() : new ArrayList<>();
        boolean first = true;
        while (!job.left.isEmpty()) {
            int join = job.left.get(0).join();
            if (join == 30 && first || join == 31 && right || join == 32 && !right) {
                break;
            }
            first = false;
            job.left.remove(0);
        }
        if (job.left.isEmpty()) {
            jobs.remove(number);
            over++;
        } else {
            job.steps = stepsOf(job.left.get(0));
        }
    }

    private static int stepsOf(Command command) {
        return command.verb() == 27 ? command.words().get(1) - 40 : 1;
    }

    private int start() {
        for (int number = 0; number < 3; number++) {
            if (!jobs.containsKey(number)) {
                Job job = new Job();
                job.left = commands(line);
                job.steps = stepsOf(job.left.get(0));
                job.working = working;
                jobs.put(number, job);
                return 1;
            }
        }
        return 0;
    }

    // ---- the face

    int token(int token) {
        if (!isToken(token)) {
            throw new IllegalArgumentException();
        }
        if (line.size() == 16) {
            throw new IllegalStateException();
        }
        line.add(token);
        return line.size();
    }

    int erase(int many) {
        if (many < 1 || many > 16) {
            throw new IllegalArgumentException();
        }
        for (int k = 0; k < many && !line.isEmpty(); k++) {
            line.remove(line.size() - 1);
        }
        return line.size();
    }

    private static int place(List<Integer> list, int k) {
        if (k < 0 || k >= list.size()) {
            throw new IndexOutOfBoundsException();
        }
        return list.get(k);
    }

    int written(int k) {
        return place(line, k);
    }

    int line(int what) {
        if (what < 0 || what > 2) {
            throw new IllegalArgumentException();
        }
        int[] fault = fault(line);
        return what < 2 ? fault[what] : fault[0] == 0 ? commands(line).size() : 0;
    }

    int run() {
        if (line.isEmpty()) {
            throw new IllegalStateException();
        }
        int answer = -1;
        result = new ArrayList<>();
        if (fault(line)[0] == 0) {
            stepAll();
            ran++;
            kept.add(0, new ArrayList<>(line));
            if (kept.size() > 12) {
                kept.remove(12);
            }
            answer = line.get(line.size() - 1) == 33 ? start() : runAtOnce(line) ? 1 : 0;
        }
        if (answer == 1 && wrong != null && wrong.size() == line.size()) {
            learn();
        }
        wrong = answer == 1 ? null : line;
        line = new ArrayList<>();
        return answer;
    }

    private void learn() {
        List<Integer> places = new ArrayList<>();
        for (int k = 0; k < line.size(); k++) {
            if (!line.get(k).equals(wrong.get(k))) {
                places.add(k);
            }
        }
        if (places.size() == 1) {
            rules.put(wrong.get(places.get(0)), line.get(places.get(0)));
        }
    }

    int output(int k) {
        return place(result, k);
    }

    int complete(int k) {
        List<Integer> come = new ArrayList<>();
        for (int token = 0; token < 100 && line.size() < 16; token++) {
            if (isToken(token)) {
                List<Integer> longer = new ArrayList<>(line);
                longer.add(token);
                int[] fault = fault(longer);
                if (fault[0] == 0 || fault[0] == 3 && fault[1] == longer.size()) {
                    come.add(token);
                }
            }
        }
        come.sort(Comparator.comparing((Integer token) -> -uses(token)).thenComparing(token -> token));
        return place(come, k);
    }

    private int uses(int token) {
        int uses = 0;
        for (List<Integer> words : kept) {
            if (line.isEmpty()) {
                uses += words.get(0) == token ? 1 : 0;
                continue;
            }
            for (int k = 1; k < words.size(); k++) {
                uses += words.get(k) == token && words.get(k - 1).equals(line.get(line.size() - 1)) ? 1 : 0;
            }
        }
        return uses;
    }

    int kept(int number, int k) {
        if (number < 0 || number >= kept.size()) {
            throw new IndexOutOfBoundsException();
        }
        return place(kept.get(number), k);
    }

    int recall(int number) {
        if (number < 0 || number >= kept.size()) {
            throw new IndexOutOfBoundsException();
        }
        line = new ArrayList<>(kept.get(number));
        return line.size();
    }

    int search(int first, int second) {
        if (!isToken(first) || second != -1 && !isToken(second)) {
            throw new IllegalArgumentException();
        }
        for (int number = 0; number < kept.size(); number++) {
            List<Integer> words = kept.get(number);
            List<Integer> pair = second == -1 ? List.of(first) : List.of(first, second);
            if (Collections.indexOfSubList(words, pair) >= 0) {
                return number;
            }
        }
        return -1;
    }

    int rule(int token) {
        if (!isToken(token)) {
            throw new IllegalArgumentException();
        }
        return rules.getOrDefault(token, -1);
    }

    int correct() {
        if (dry(0) == 1) {
            return -1;
        }
        for (int k = 0; k < line.size(); k++) {
            Integer to = rules.get(line.get(k));
            if (to != null && dryWith(k, to) == 1) {
                line.set(k, to);
                return k;
            }
        }
        return -1;
    }

    int ofNode(int node, int what) {
        if (node < 0 || node > 23) {
            throw new IndexOutOfBoundsException();
        }
        if (what < 0 || what > 3) {
            throw new IllegalArgumentException();
        }
        Node there = nodes.get(node);
        if (there == null) {
            return what == 0 || what == 3 ? 0 : -1;
        }
        switch (what) {
            case 0: return there.directory ? 1 : 2;
            case 1: return there.name;
            case 2: return there.parent;
            default: return there.directory ? childrenByName(node).size() : there.numbers.size();
        }
    }

    int number(int node, int k) {
        if (!nodes.containsKey(node) || nodes.get(node).directory) {
            throw new IndexOutOfBoundsException();
        }
        return place(nodes.get(node).numbers, k);
    }

    int ofJob(int number, int what) {
        Job job = jobs.get(number);
        if (job == null) {
            throw new IndexOutOfBoundsException();
        }
        if (what < 0 || what > 3) {
            throw new IllegalArgumentException();
        }
        return new int[] {job.left.size(), job.steps, job.held ? 1 : 0, job.working}[what];
    }

    int signal(int number, int signal) {
        Job job = jobs.get(number);
        if (job == null) {
            throw new IndexOutOfBoundsException();
        }
        if (signal < 0 || signal > 2) {
            throw new IllegalArgumentException();
        }
        job.held = signal == 0;
        if (signal == 2) {
            jobs.remove(number);
        }
        return job.left.size();
    }

    int many(int what) {
        if (what < 0 || what > 9) {
            throw new IllegalArgumentException();
        }
        int files = (int) nodes.values().stream().filter(node -> !node.directory).count();
        return new int[] {nodes.size(), files, working, jobs.size(), kept.size(), rules.size(), line.size(),
            result.size(), ran, over}[what];
    }

    double meanNumber() {
        List<Integer> all = new ArrayList<>();
        nodes.values().forEach(node -> all.addAll(node.numbers));
        int sum = all.stream().mapToInt(Integer::intValue).sum();
        return all.isEmpty() ? 0.0 : (double) sum / all.size();
    }

    int dry(int what) {
        if (what < 0 || what > 6) {
            throw new IllegalArgumentException();
        }
        if (fault(line)[0] != 0) {
            return what == 0 ? -1 : what == 4 ? working : 0;
        }
        Model other = copy();
        boolean right = other.runAtOnce(line);
        List<Integer> both = new ArrayList<>(nodes.keySet());
        both.retainAll(other.nodes.keySet());
        int unlike = 0;
        for (int node : both) {
            Node before = nodes.get(node);
            Node behind = other.nodes.get(node);
            unlike += !before.directory && !behind.directory && !before.numbers.equals(behind.numbers) ? 1 : 0;
        }
        return new int[] {right ? 1 : 0, other.nodes.size() - both.size(), nodes.size() - both.size(), unlike,
            other.working, other.result.size(), other.result.stream().mapToInt(Integer::intValue).sum()}[what];
    }

    int dryWith(int place, int token) {
        if (place < 0 || place >= line.size()) {
            throw new IndexOutOfBoundsException();
        }
        if (!isToken(token)) {
            throw new IllegalArgumentException();
        }
        Model other = copy();
        other.line.set(place, token);
        return other.dry(0);
    }

    int overIn(int lines) {
        if (lines < 1 || lines > 60) {
            throw new IllegalArgumentException();
        }
        Model other = copy();
        for (int k = 0; k < lines; k++) {
            other.stepAll();
        }
        return other.over;
    }

    /** Spreads from the WORKING one over all edges. */
    int far(int node) {
        if (node < 0 || node > 23) {
            throw new IndexOutOfBoundsException();
        }
        TreeMap<Integer, Integer> distances = new TreeMap<>();
        distances.put(working, 0);
        for (int round = 0; round < 24; round++) {
            for (int one : nodes.keySet()) {
                int parent = nodes.get(one).parent;
                if (distances.containsKey(one) && parent >= 0) {
                    distances.merge(parent, distances.get(one) + 1, Math::min);
                }
                if (parent >= 0 && distances.containsKey(parent)) {
                    distances.merge(one, distances.get(parent) + 1, Math::min);
                }
            }
        }
        return nodes.containsKey(node) ? distances.get(node) : -1;
    }

    long digest() {
        List<Integer> all = new ArrayList<>();
        for (int what = 0; what < 10; what++) {
            all.add(many(what));
        }
        for (int node = 0; node < 24; node++) {
            for (int what = 0; what < 4; what++) {
                all.add(ofNode(node, what));
            }
            all.add(far(node));
            if (nodes.containsKey(node)) {
                all.addAll(nodes.get(node).numbers);
            }
        }
        for (int number : jobs.keySet()) {
            for (int what = 0; what < 4; what++) {
                all.add(ofJob(number, what));
            }
        }
        all.addAll(line);
        for (int what = 0; what < 3; what++) {
            all.add(line(what));
        }
        for (int what = 0; what < 7; what++) {
            all.add(dry(what));
        }
        all.addAll(result);
        kept.forEach(all::addAll);
        for (int token = 0; token < 100; token++) {
            if (isToken(token)) {
                all.add(rule(token));
            }
        }
        all.add(overIn(5));
        long d = 5752;
        for (int v : all) {
            d = d * 31 + v;
        }
        return d;
    }
}
