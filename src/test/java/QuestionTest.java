import java.util.Map;

/**
 * What the document promises by not naming it: a question changes nothing and is no REFUSAL, a
 * question that is asked again has the same answer, and one object is nothing to another.
 */
public final class QuestionTest {
    /** Each method that only asks, with numbers that MIXED has. */
    private static final String[] QUESTIONS = {"sun 0 0 2", "light 0 3 0 1", "taker 0 0 0 2", "takes 0 0 0", "hours 0 0",
        "loss 3 0 0", "high 3", "breach 3 3", "breach 3 200", "blockOf 1 2", "windowOf 0 3", "windowOf 1 5",
        "count 3", "count 4", "count 5", "count 16", "count 99", "release 2", "release 3"};

    private QuestionTest() {
    }

    public static void main(String[] args) {
        for (String question : QUESTIONS) {
            changesNothing(question);
        }
        allAtOnceChangeNothing();
        for (Scene scene : Scene.values()) {
            objectsHaveNothingInCommon(scene);
        }
        theSameCallsTheSameAnswers();
        Due.end();
    }

    private static String methodOf(String question) {
        return question.split(" ")[0];
    }

    private static int[] numbersOf(String question) {
        String[] words = question.split(" ");
        int[] numbers = new int[words.length - 1];
        for (int i = 0; i < numbers.length; i++) {
            numbers[i] = Integer.parseInt(words[i + 1]);
        }
        return numbers;
    }

    private static void sameLook(String after, SunCourt c, Scene scene, int look) {
        Map<String, Integer> due = scene.look(scene.make(), look);
        Map<String, Integer> seen = scene.look(c, look);
        for (Map.Entry<String, Integer> was : due.entrySet()) {
            Due.is(after + ", then " + was.getKey(), seen.get(was.getKey()), was.getValue());
        }
    }

    private static void noRefusal(String after, SunCourt c) {
        for (int what = 11; what <= 16; what++) {
            Due.is(after + ", then count(" + what + ")", c.count(what), 0);
        }
    }

    private static void changesNothing(String question) {
        Due.about("a question changes nothing");
        String method = methodOf(question);
        int[] numbers = numbersOf(question);
        for (int look = 0; look < Scene.LOOKS; look++) {
            SunCourt c = Scene.MIXED.make();
            int answer = Scene.ask(c, method, numbers);
            Due.is(question + " again", Scene.ask(c, method, numbers), answer);
            noRefusal(question, c);
            sameLook(question, c, Scene.MIXED, look);
        }
    }

    private static void allAtOnceChangeNothing() {
        Due.about("many questions change nothing");
        for (int look = 0; look < Scene.LOOKS; look++) {
            SunCourt c = Scene.MIXED.make();
            for (String question : QUESTIONS) {
                Scene.ask(c, methodOf(question), numbersOf(question));
            }
            noRefusal("all", c);
            sameLook("all", c, Scene.MIXED, look);
        }
    }

    /** Each other scene is made and looked at between two looks at this one. */
    private static void objectsHaveNothingInCommon(Scene scene) {
        Due.about("objects have nothing in common");
        for (Scene other : Scene.values()) {
            for (int look = 0; look < Scene.LOOKS; look++) {
                SunCourt c = scene.make();
                SunCourt d = other.make();
                d.part(0);
                other.look(d, Scene.LOOKS - 1);
                Due.is(scene + " beside " + other + ", refusals", c.count(14), 0);
                sameLook(scene + " beside " + other, c, scene, look);
            }
        }
    }

    private static void theSameCallsTheSameAnswers() {
        Due.about("the same calls, the same answers");
        for (Scene scene : Scene.values()) {
            for (int look = 0; look < Scene.LOOKS; look++) {
                sameLook(scene + " made again", scene.make(), scene, look);
            }
        }
    }
}
