/** What the tests of the project share: answers against those that are due, and terms written as words. */
final class Check {
    /** Stands for the answer of a call that threw. */
    static final int STATE = 1_000_000_001;
    static final int ARGUMENT = 1_000_000_002;

    private static final int COUNTS = 9;
    private static final int RESULTS = 3;

    interface Call {
        int answer();
    }

    private static final String[] WORDS = {
        "var", "lam", "app", "num", "plus", "minus", "times", "less", "zero", "fix", "let", "pair", "first", "second"
    };

    private static String sentence = "";
    private static int wrong = 0;
    private static int asked = 0;

    private Check() {
    }

    /** The document's words that the answers behind it are about: told with each that is not as due. */
    static void sentence(String words) {
        sentence = "\"" + words + "\": ";
    }

    static void due(String call, int want, int got) {
        asked++;
        if (want != got) {
            wrong++;
            System.out.println(sentence + call + " answered " + told(got) + ", due is " + told(want));
        }
    }

    static void due(String call, int want, Call made) {
        due(call, want, outcome(made));
    }

    static int outcome(Call made) {
        try {
            return made.answer();
        } catch (IllegalStateException e) {
            return STATE;
        } catch (IllegalArgumentException e) {
            return ARGUMENT;
        }
    }

    private static String told(int answer) {
        return answer == STATE ? "throws.IllegalStateException"
            : answer == ARGUMENT ? "throws.IllegalArgumentException" : Integer.toString(answer);
    }

    static int restart(LazyMachine machine) {
        return outcome(() -> {
            machine.restart();
            return 0;
        });
    }

    /** Puts a term written as words: v3 is a variable, 17 a number, any other word the name of its sort. */
    static void put(LazyMachine machine, String term) {
        for (String word : term.trim().split("\\s+")) {
            if (word.matches("v\\d+")) {
                machine.put(0, Integer.parseInt(word.substring(1)));
            } else if (word.matches("-?\\d+")) {
                machine.put(3, Integer.parseInt(word));
            } else {
                machine.put(sortOf(word), 0);
            }
        }
    }

    private static int sortOf(String word) {
        for (int sort = 0; sort < WORDS.length; sort++) {
            if (WORDS[sort].equals(word)) {
                return sort;
            }
        }
        throw new AssertionError("no such word: " + word);
    }

    static LazyMachine loaded(String term) {
        LazyMachine machine = new LazyMachine();
        put(machine, term);
        due("load() of " + term, 0, machine.load());
        return machine;
    }

    /** Runs the term as far as it goes; the status behind it is due. */
    static LazyMachine ran(String term, int status) {
        LazyMachine machine = loaded(term);
        due("run(5000) of " + term, status, machine.run(5000));
        return machine;
    }

    static void number(String term, int want) {
        LazyMachine machine = ran(term, 2);
        due("result(0) of " + term, 0, () -> machine.result(0));
        due("result(1) of " + term, want, () -> machine.result(1));
    }

    static void counts(String where, LazyMachine machine, int... wants) {
        for (int what = 0; what < wants.length; what++) {
            due(where + ": count(" + what + ")", wants[what], machine.count(what));
        }
    }

    /** A call that is refused: it answers so, or throws, and leaves everything as it was. */
    static void refused(String call, int want, LazyMachine machine, Call made) {
        int[] before = seen(machine);
        due(call, want, made);
        same(call, before, seen(machine));
    }

    /** The next step can't be done: the status is all that it changes. */
    static void stops(String where, int status, LazyMachine machine) {
        int[] before = seen(machine);
        due(where + ", ahead of it: count(2)", 1, before[2]);
        due(where + ": run(1)", status, () -> machine.run(1));
        before[2] = status;
        same(where, before, seen(machine));
        refused(where + ", stopped: run(5000)", status, machine, () -> machine.run(5000));
    }

    private static void same(String where, int[] before, int[] behind) {
        for (int i = 0; i < before.length; i++) {
            String asked = i < COUNTS ? "count(" + i + ")" : "result(" + (i - COUNTS) + ")";
            due(where + ", behind it: " + asked, before[i], behind[i]);
        }
    }

    private static int[] seen(LazyMachine machine) {
        int[] answers = new int[COUNTS + RESULTS];
        for (int what = 0; what < COUNTS; what++) {
            answers[what] = machine.count(what);
        }
        for (int what = 0; what < RESULTS; what++) {
            int it = what;
            answers[COUNTS + what] = outcome(() -> machine.result(it));
        }
        return answers;
    }

    static String repeated(String words, int times) {
        return (words + " ").repeat(times);
    }

    static void end() {
        System.out.println(asked + " answers, " + wrong + " of them not as due");
        if (wrong != 0) {
            System.exit(1);
        }
    }
}
