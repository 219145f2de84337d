import java.util.ArrayList;
import java.util.List;
import java.util.Map;

/**
 * Calls written as text, so that the test of a sentence is a list of calls with the answers that are due:
 * "element(50) = 0; element(51) = BAD; 8 x drop()". Each script has a new object of its own.
 */
final class Script {
    static final int CALLS_OF_AN_OBJECT = 512;
    private static final Map<String, Integer> NAMES = Map.ofEntries(
        Map.entry("UNKNOWN", -1), Map.entry("BAD", -2), Map.entry("STATE", -3), Map.entry("FULL", -4),
        Map.entry("NONE", -99999), Map.entry("NULL", -11), Map.entry("PLACE", -12), Map.entry("CAST", -13),
        Map.entry("SIZE", -14), Map.entry("MIN", Integer.MIN_VALUE), Map.entry("MAX", Integer.MAX_VALUE),
        Map.entry("true", 1), Map.entry("false", 0));

    private static int wrong = 0;
    private static int checked = 0;

    private Script() {
    }

    /** A sentence of the document holds, if every call of the script that tells an answer gives it. */
    static void holds(String sentence, String script) {
        play(sentence, new EchoRow(), script);
    }

    static void play(String sentence, EchoRow row, String script) {
        int made = 0;
        for (String step : steps(script)) {
            String[] sides = step.split(" = ");
            int got = on(row, sides[0]);
            made++;
            if (sides.length > 1) {
                due(sentence, sides[0], got, number(sides[1]));
            }
        }
        if (made > CALLS_OF_AN_OBJECT) {
            throw new IllegalArgumentException(made + " calls, more than the document promises anything of: " + sentence);
        }
    }

    static void due(String sentence, String call, int got, int want) {
        checked++;
        if (got != want) {
            wrong++;
            System.out.println("\"" + sentence + "\": " + call + " answered " + got + ", due is " + want);
        }
    }

    static void end() {
        System.out.println(wrong == 0 ? "all " + checked + " answers are as due" : wrong + " answers are not as due");
        if (wrong != 0) {
            System.exit(1);
        }
    }

    /** The calls of a script one by one, repeated ones as often as they are to be made. */
    static List<String> steps(String script) {
        List<String> all = new ArrayList<>();
        for (String line : script.split("[;\n]")) {
            String step = line.strip();
            int times = 1;
            if (step.matches("\\d+ x .*")) {
                times = Integer.parseInt(step.substring(0, step.indexOf(' ')));
                step = step.substring(step.indexOf(" x ") + 3).strip();
            }
            for (int i = 0; i < times && !step.isEmpty(); i++) {
                all.add(step);
            }
        }
        return all;
    }

    static int number(String text) {
        Integer named = NAMES.get(text.strip());
        return named != null ? named : Integer.parseInt(text.strip());
    }

    static int on(EchoRow row, String call) {
        int open = call.indexOf('(');
        String inside = call.substring(open + 1, call.indexOf(')')).strip();
        String[] parts = inside.isEmpty() ? new String[0] : inside.split(",");
        int[] n = new int[parts.length];
        for (int i = 0; i < n.length; i++) {
            n[i] = number(parts[i]);
        }
        return on(row, call.substring(0, open).strip() + " " + n.length, n);
    }

    private static int on(EchoRow x, String name, int[] n) {
        return switch (name) {
            case "body 4" -> x.body(n[0], n[1], n[2], n[3]);
            case "element 1" -> x.element(n[0]);
            case "lose 2" -> x.lose(n[0], n[1] == 1);
            case "target 5" -> x.target(n[0], n[1], n[2], n[3], n[4]);
            case "drop 0" -> x.drop();
            case "taken 3" -> x.taken(n[0], n[1], n[2]);
            case "time 3" -> x.time(n[0], n[1], n[2]);
            case "bend 3" -> x.bend(n[0], n[1], n[2]);
            case "echoTime 3" -> x.echoTime(n[0], n[1], n[2]);
            case "slowness 3" -> x.slowness(n[0], n[1], n[2]);
            case "echo 3" -> x.echo(n[0], n[1], n[2]);
            case "gate 5" -> x.gate(n[0], n[1], n[2], n[3], n[4]);
            case "focus 2" -> x.focus(n[0], n[1]);
            case "delay 1" -> x.delay(n[0]);
            case "heard 2" -> x.heard(n[0], n[1]);
            case "sum 1" -> x.sum(n[0]);
            case "board 2" -> x.board(n[0], n[1]);
            case "tell 3" -> x.tell(n[0], n[1], n[2]);
            case "forget 0" -> x.forget();
            case "places 1" -> x.places(n[0]);
            case "place 2" -> x.place(n[0], n[1]);
            case "sheet 3" -> x.sheet(n[0], n[1], n[2]);
            case "tear 1" -> x.tear(n[0]);
            case "record 4" -> x.record(n[0], n[1], n[2], n[3]);
            case "add 3" -> x.add(n[0], n[1], n[2]);
            case "copy 5" -> x.copy(n[0], n[1], n[2], n[3], n[4]);
            case "at 2" -> x.at(n[0], n[1]);
            case "peak 1" -> x.peak(n[0]);
            case "total 1" -> x.total(n[0]);
            default -> throw new IllegalArgumentException("no such call: " + name);
        };
    }
}
