import java.lang.reflect.InvocationTargetException;
import java.lang.reflect.Method;
import java.util.ArrayList;
import java.util.List;

/**
 * The arguments of every call of the face (promises 2 to 48, section 7): for each of them the last value
 * that is let and the first one that is not, on both sides, and those far out, with all the other
 * arguments' bounds; which exception goes ahead; and that a call that throws changes nothing.
 */
public final class CallBoundsTest {
    /** A call and its arguments: a cell, a flag, or the least and the most that is let. */
    private static final String[] CALLS = {
        "putEighths cell -160,160", "putExp cell -160,160", "putExpm1 cell -160,160", "putLog1p cell -7,160",
        "exp cell cell", "expm1 cell cell", "log1p cell cell", "negate cell cell", "add cell cell cell",
        "times cell cell cell", "lessOne cell cell", "plusOne cell cell", "copy cell cell", "swap cell cell",
        "choose cell cell flag cell", "kind cell", "eighths cell 0,1", "isExact cell", "upper cell", "lower cell",
        "sign cell", "lead cell", "head cell 1,31", "tail cell", "digits cell 1,45", "floorOf cell 0,40",
        "nearest cell", "back cell", "against cell -1000000000,1000000000 1,32", "order cell cell",
        "isLevel cell cell", "same cell cell", "productWithin cell cell cell", "inverseWithin cell cell",
        "lessWithin cell cell", "wayWithin cell -160,168", "growth cell 1,64 flag",
        "growthAgainst -160,160 1,64 flag cell", "growthOrder -160,160 1,64 1,64 flag", "growthNear cell 1,64",
        "first cell 1,3", "rank cell", "find cell flag", "count 0,9", "house 0,2"};

    /** What a state's calls have in common. */
    private interface State {
        Steadygrowth make();
    }

    public static void main(String[] args) {
        everyCallWithArgumentsIsInTheTable();
        for (String call : CALLS) {
            boundsOf(call, "a new one", Steadygrowth::new);
            boundsOf(call, "one of many KINDS", CallBoundsTest::ofManyKinds);
            boundsOf(call, "one of which nothing is told", CallBoundsTest::ofWhichNothingIsTold);
        }
        whereNothingIsToldItIsSo();
        Due.finish();
    }

    private static void everyCallWithArgumentsIsInTheTable() {
        int withArguments = 0;
        for (Method method : Steadygrowth.class.getMethods()) {
            boolean isOwn = method.getDeclaringClass() == Steadygrowth.class;
            withArguments += isOwn && method.getParameterCount() > 0 ? 1 : 0;
        }
        // end() takes a flag alone, so it has no bound
        Due.is("calls with arguments", withArguments, CALLS.length + 1);
    }

    private static Steadygrowth ofManyKinds() {
        Steadygrowth x = Answers.with(Answers.of(1, 160), Answers.of(2, -160), Answers.of(3, -7),
                new Answers(4, -160, 160), Answers.of(5, -8), Answers.of(6, -8));
        x.times(3, 3, 3);
        x.knock();
        return x;
    }

    /** All have a PRODUCT whose sum is 0: no act takes it, and no digit and no fraction is told of it. */
    private static Steadygrowth ofWhichNothingIsTold() {
        Steadygrowth x = new Steadygrowth();
        x.putExp(0, -1);
        x.putExp(1, 1);
        for (int cell = 7; cell > 1; cell--) {
            x.times(0, 1, cell);
        }
        x.copy(7, 0);
        x.copy(7, 1);
        return x;
    }

    private static void whereNothingIsToldItIsSo() {
        Steadygrowth x = ofWhichNothingIsTold();
        Due.is("exceptions go ahead of -9: that was so in exp", x.exp(0, 0), -9);
        Due.is("in expm1", x.expm1(0, 7), -9);
        Due.is("in log1p", x.log1p(7, 0), -9);
        Due.is("in negate", x.negate(0, 0), -9);
        Due.is("in add", x.add(0, 0, 0), -9);
        Due.is("in times", x.times(0, 0, 0), -9);
        Due.is("in lessOne", x.lessOne(0, 0), -9);
        Due.is("in plusOne", x.plusOne(0, 0), -9);
        Due.is("in against", x.against(0, 1, 1), -9);
        Due.is("in productWithin", x.productWithin(0, 0, 0), -9);
        Due.is("in inverseWithin", x.inverseWithin(0, 0), -9);
        Due.is("in lessWithin", x.lessWithin(0, 0), -9);
        Due.is("in wayWithin", x.wayWithin(0, 8), -9);
        Due.is("in growth", x.growth(0, 64, true), -9);
        Due.is("in growthAgainst", x.growthAgainst(0, 64, true, 0), -9);
        Due.is("in growthNear", x.growthNear(0, 64), -9);
        Due.is("exceptions go ahead of NONE: that was so in head", x.head(0, 31), Integer.MIN_VALUE);
        Due.is("in floorOf", x.floorOf(0, 0), Integer.MIN_VALUE);
        Due.is("in digits", x.digits(0, 45), "");
        Due.is("in growthOrder", x.growthOrder(160, 1, 1, true), -9);
    }

    private static void boundsOf(String call, String ofWhat, State state) {
        String[] words = call.split(" ");
        List<Object[]> all = new ArrayList<>();
        fill(words, 1, new Object[words.length - 1], all);
        Method method = named(words[0]);
        String before = Told.all(state.make());
        for (Object[] arguments : all) {
            Steadygrowth x = state.make();
            Object due = due(words, arguments);
            String what = ofWhat + ": " + words[0] + java.util.Arrays.toString(arguments);
            Due.is(what + " throws", thrown(method, x, arguments), due);
            if (!due.equals("nothing")) {
                Due.is(what + " threw, then all", Told.all(x), before);
            }
        }
    }

    private static Method named(String name) {
        for (Method method : Steadygrowth.class.getMethods()) {
            if (method.getName().equals(name)) {
                return method;
            }
        }
        throw new IllegalStateException("no call is named " + name);
    }

    /** Every argument takes each of its values with all those of the others. */
    private static void fill(String[] words, int at, Object[] arguments, List<Object[]> all) {
        if (at == words.length) {
            all.add(arguments.clone());
            return;
        }
        for (Object value : valuesOf(words[at])) {
            arguments[at - 1] = value;
            fill(words, at + 1, arguments, all);
        }
    }

    private static Object[] valuesOf(String word) {
        if (word.equals("flag")) {
            return new Object[] {false, true};
        }
        int least = leastOf(word);
        int most = mostOf(word);
        return new Object[] {Integer.MIN_VALUE, least - 1, least, most, most + 1, Integer.MAX_VALUE};
    }

    private static int leastOf(String word) {
        return word.equals("cell") ? 0 : Integer.parseInt(word.split(",")[0]);
    }

    private static int mostOf(String word) {
        return word.equals("cell") ? 7 : Integer.parseInt(word.split(",")[1]);
    }

    /** A cell out of its bounds is named ahead of all else. */
    private static Object due(String[] words, Object[] arguments) {
        Object due = "nothing";
        for (int i = 0; i < arguments.length; i++) {
            String word = words[i + 1];
            if (!word.equals("flag")) {
                int value = (int) arguments[i];
                boolean isLet = value >= leastOf(word) && value <= mostOf(word);
                if (!isLet && word.equals("cell")) {
                    return IndexOutOfBoundsException.class;
                }
                due = isLet ? due : IllegalArgumentException.class;
            }
        }
        return due;
    }

    private static Object thrown(Method method, Steadygrowth x, Object[] arguments) {
        try {
            method.invoke(x, arguments);
            return "nothing";
        } catch (InvocationTargetException e) {
            return e.getCause().getClass();
        } catch (IllegalAccessException e) {
            return e.getClass();
        }
    }
}
