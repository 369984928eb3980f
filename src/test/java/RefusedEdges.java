import java.util.ArrayList;
import java.util.List;

/** Every call that can be refused, in states that are full of what could change, and which exception comes first. */
final class RefusedEdges extends Edges {
    private record Refusal(String name, String exception, Call call) {
    }

    RefusedEdges(Sentences doc) {
        super(doc);
    }

    void all() {
        of(0, "A call that throws an exception changes nothing");
        everyRefusal("rich", RefusedEdges::rich, richRefusals());
        everyRefusal("full", RefusedEdges::full, fullRefusals());
        of(0, "If several exceptions apply, the one that is named first in the throws clause is thrown");
        everyRefusal("new", SlideMills::new, newRefusals());
    }

    private void everyRefusal(String state, Making making, List<Refusal> more) {
        List<Refusal> refusals = outOfRange();
        refusals.addAll(more);
        for (Refusal refusal : refusals) {
            refused(state + ", " + refusal.name, refusal.exception, making, refusal.call);
        }
    }

    /** Six saved states, a snapshot, a stop, a sack that can't be unpacked, each setting another than at first. */
    private static SlideMills rich() {
        SlideMills x = Mills.after("+abcabcabca;p2");
        x.keep();
        x.setWindow(15);
        x.setShortest(2);
        x.setLongest(9);
        x.setLetterPrice(4);
        x.setRepeatPrice(7);
        Mills.doWorks(x, "-;+abcdabcaa;r39,2;u;e");
        Mills.type(x, "+ab;x");
        return x;
    }

    private static List<Refusal> richRefusals() {
        return List.of(new Refusal("work", ARGUMENT, SlideMills::work),
                new Refusal("unpack", STATE, SlideMills::unpack),
                new Refusal("letterAt", INDEX, x -> x.letterAt(9)),
                new Refusal("setLetter", INDEX, x -> x.setLetter(9, 0)),
                new Refusal("letterOf a repeat", STATE, x -> x.letterOf(3)),
                new Refusal("distanceOf a letter", STATE, x -> x.distanceOf(0)),
                new Refusal("letterOf", INDEX, x -> x.letterOf(6)),
                new Refusal("distanceOf", INDEX, x -> x.distanceOf(6)),
                new Refusal("lengthOf", INDEX, x -> x.lengthOf(6)),
                new Refusal("isRepeat", INDEX, x -> x.isRepeat(6)),
                new Refusal("repeatLength", INDEX, x -> x.repeatLength(9)),
                new Refusal("repeatLengthByPairs", INDEX, x -> x.repeatLengthByPairs(9)),
                new Refusal("repeatDistance", INDEX, x -> x.repeatDistance(9)));
    }

    /** 40 letters, 40 tokens, 60 characters. */
    private static SlideMills full() {
        SlideMills x = Mills.after("+" + Mills.times(10, "abcd"));
        x.setWindow(3);
        x.pack(0);
        x.keep();
        x.takeLast();
        x.takeLast();
        x.addRepeat(38, 1);
        x.addToken(2);
        x.setLetter(39, 1);
        Mills.type(x, Mills.times(30, "u;"));
        return x;
    }

    private static List<Refusal> fullRefusals() {
        return List.of(new Refusal("addLetter", STATE, x -> x.addLetter(0)),
                new Refusal("addToken", STATE, x -> x.addToken(3)),
                new Refusal("addRepeat", STATE, x -> x.addRepeat(1, 1)),
                new Refusal("append", STATE, x -> x.append('u')),
                new Refusal("work", ARGUMENT, SlideMills::work),
                new Refusal("stoppedPart", STATE, SlideMills::stoppedPart),
                new Refusal("whyStopped", STATE, SlideMills::whyStopped),
                new Refusal("letterAt", INDEX, x -> x.letterAt(40)),
                new Refusal("setLetter", INDEX, x -> x.setLetter(40, 0)),
                new Refusal("letterOf a repeat", STATE, x -> x.letterOf(38)),
                new Refusal("distanceOf a letter", STATE, x -> x.distanceOf(39)),
                new Refusal("lengthOf", INDEX, x -> x.lengthOf(40)),
                new Refusal("isRepeat", INDEX, x -> x.isRepeat(40)));
    }

    private static List<Refusal> newRefusals() {
        return List.of(new Refusal("undo", STATE, SlideMills::undo),
                new Refusal("restore", STATE, SlideMills::restore),
                new Refusal("takeLast", STATE, SlideMills::takeLast),
                new Refusal("work", ARGUMENT, SlideMills::work),
                new Refusal("stoppedPart", STATE, SlideMills::stoppedPart),
                new Refusal("whyStopped", STATE, SlideMills::whyStopped),
                new Refusal("mostFrequent", STATE, SlideMills::mostFrequent),
                new Refusal("letterAt", INDEX, x -> x.letterAt(0)),
                new Refusal("setLetter", INDEX, x -> x.setLetter(0, 0)),
                new Refusal("letterOf", INDEX, x -> x.letterOf(0)),
                new Refusal("distanceOf", INDEX, x -> x.distanceOf(0)),
                new Refusal("lengthOf", INDEX, x -> x.lengthOf(0)),
                new Refusal("isRepeat", INDEX, x -> x.isRepeat(0)),
                new Refusal("repeatLength", INDEX, x -> x.repeatLength(0)),
                new Refusal("repeatLengthByPairs", INDEX, x -> x.repeatLengthByPairs(0)),
                new Refusal("repeatDistance", INDEX, x -> x.repeatDistance(0)));
    }

    /** What is refused in every state, whatever else would be refused there too. */
    private static List<Refusal> outOfRange() {
        List<Refusal> refusals = new ArrayList<>();
        add(refusals, "addLetter", ARGUMENT, SlideMills::addLetter, outOf(0, 3));
        add(refusals, "setLetter, place", INDEX, (x, place) -> x.setLetter(place, 0), -1, 40);
        add(refusals, "setLetter, neither", INDEX, (x, place) -> x.setLetter(place, 4), -1, 40);
        add(refusals, "setWindow", ARGUMENT, SlideMills::setWindow, outOf(1, 32));
        add(refusals, "setShortest", ARGUMENT, SlideMills::setShortest, outOf(2, 4));
        add(refusals, "setLongest", ARGUMENT, SlideMills::setLongest, outOf(4, 9));
        add(refusals, "setLetterPrice", ARGUMENT, SlideMills::setLetterPrice, outOf(1, 9));
        add(refusals, "setRepeatPrice", ARGUMENT, SlideMills::setRepeatPrice, outOf(1, 20));
        add(refusals, "pack", ARGUMENT, SlideMills::pack, outOf(0, 2));
        add(refusals, "addToken", ARGUMENT, SlideMills::addToken, outOf(0, 3));
        add(refusals, "addRepeat, distance", ARGUMENT, (x, far) -> x.addRepeat(far, 1), outOf(1, 39));
        add(refusals, "addRepeat, length", ARGUMENT, (x, many) -> x.addRepeat(1, many), outOf(1, 40));
        add(refusals, "append", ARGUMENT, SlideMills::append, outOf(33, 126));
        add(refusals, "letterAt", INDEX, SlideMills::letterAt, outOf(0, 39));
        add(refusals, "isRepeat", INDEX, SlideMills::isRepeat, outOf(0, 39));
        add(refusals, "letterOf", INDEX, SlideMills::letterOf, outOf(0, 39));
        add(refusals, "distanceOf", INDEX, SlideMills::distanceOf, outOf(0, 39));
        add(refusals, "lengthOf", INDEX, SlideMills::lengthOf, outOf(0, 39));
        add(refusals, "repeatLength", INDEX, SlideMills::repeatLength, outOf(0, 39));
        add(refusals, "repeatLengthByPairs", INDEX, SlideMills::repeatLengthByPairs, outOf(0, 39));
        add(refusals, "repeatDistance", INDEX, SlideMills::repeatDistance, outOf(0, 39));
        add(refusals, "costBy", ARGUMENT, SlideMills::costBy, outOf(0, 2));
        add(refusals, "tokensBy", ARGUMENT, SlideMills::tokensBy, outOf(0, 2));
        add(refusals, "leastCostWith", ARGUMENT, SlideMills::leastCostWith, outOf(1, 32));
        add(refusals, "pairs", ARGUMENT, SlideMills::pairs, outOf(0, 15));
        add(refusals, "lastPlaceOf", ARGUMENT, SlideMills::lastPlaceOf, outOf(0, 15));
        return refusals;
    }

    private static void add(List<Refusal> refusals, String name, String exception, NumberCall call, int... numbers) {
        for (int number : numbers) {
            refusals.add(new Refusal(name + " " + number, exception, x -> call.on(x, number)));
        }
    }
}
