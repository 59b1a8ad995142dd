import java.lang.reflect.InvocationTargetException;
import java.lang.reflect.Method;
import java.util.ArrayList;
import java.util.List;

/** A new book that is told calls by their text, one sentence of the document at a time. */
final class Told {
  /** What an object is used for at most. */
  private static final int MOST_CALLS = 512;

  private final Check check;
  private final String sentence;
  private final StrokeBook book = new StrokeBook();
  private final List<String> said = new ArrayList<>();

  Told(Check check, String sentence) {
    this.check = check;
    this.sentence = sentence;
  }

  /** Answers a call such as "teach(1, 0)". */
  static int answer(StrokeBook book, String call) {
    String name = call.substring(0, call.indexOf('('));
    String inside = call.substring(name.length() + 1, call.length() - 1);
    String[] texts = inside.isEmpty() ? new String[0] : inside.split(", ");
    for (Method method : StrokeBook.class.getDeclaredMethods()) {
      if (method.getName().equals(name) && method.getParameterCount() == texts.length) {
        try {
          return (int) method.invoke(book, arguments(method.getParameterTypes(), texts));
        } catch (IllegalAccessException | InvocationTargetException e) {
          throw new IllegalStateException(call, e);
        }
      }
    }
    throw new IllegalArgumentException("no such call: " + call);
  }

  private static Object[] arguments(Class<?>[] types, String[] texts) {
    Object[] arguments = new Object[texts.length];
    for (int n = 0; n < texts.length; n++) {
      if (types[n] == boolean.class) {
        arguments[n] = Boolean.valueOf(texts[n]);
      } else {
        arguments[n] = Integer.valueOf(texts[n]);
      }
    }
    return arguments;
  }

  Told due(String call, int want) {
    check.due(sentence + ": after " + said.size() + " calls: " + call, answer(book, call), want);
    said.add(call);
    check.holds(sentence + ": an object is used for 512 calls at most", said.size() <= MOST_CALLS);
    return this;
  }

  /** Each of the calls is due the same. */
  Told dueAll(int want, String... calls) {
    for (String call : calls) {
      due(call, want);
    }
    return this;
  }

  /** Calls that lead up to what is asked. */
  Told does(String... calls) {
    for (String call : calls) {
      answer(book, call);
      said.add(call);
    }
    return this;
  }

  /** One stroke over these points instead of the draft. */
  Told draw(int... xy) {
    does("clear()");
    for (int n = 0; n + 1 < xy.length; n += 2) {
      does("point(" + xy[n] + ", " + xy[n + 1] + ", false)");
    }
    return this;
  }

  /** Two strokes of two points each instead of the draft. */
  Told drawPairs(int... xy) {
    draw(xy[0], xy[1], xy[2], xy[3]);
    return does("point(" + xy[4] + ", " + xy[5] + ", true)", "point(" + xy[6] + ", " + xy[7] + ", false)");
  }

  /** Each of the calls is refused, and whatever is called later answers as if it had not been. */
  Told refused(int want, String... calls) {
    for (String call : calls) {
      List<String> without = lookAfter(said);
      due(call, want);
      sameLook(call, without, lookAfter(said));
    }
    return this;
  }

  /** The call is refused with each number that lies far beyond in the place of #. */
  Told refusedFarBeyond(int want, String call) {
    for (int v : Check.extremes()) {
      refused(want, call.replace("#", Integer.toString(v)));
    }
    return this;
  }

  private List<String> lookAfter(List<String> calls) {
    StrokeBook again = new StrokeBook();
    for (String call : calls) {
      answer(again, call);
    }
    List<String> look = Look.at(again);
    check.holds(sentence + ": 512 calls hold the look too", calls.size() + look.size() <= MOST_CALLS);
    return look;
  }

  private void sameLook(String call, List<String> without, List<String> with) {
    for (int n = 0; n < without.size(); n++) {
      if (!without.get(n).equals(with.get(n))) {
        check.holds(sentence + ": refused " + call + " changes nothing, but later " + with.get(n)
            + " instead of " + without.get(n), false);
        return;
      }
    }
    check.holds(sentence + ": refused " + call + " changes nothing", without.size() == with.size());
  }
}
