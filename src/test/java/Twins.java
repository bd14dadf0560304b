import java.util.List;
import java.util.function.Consumer;
import java.util.function.Function;
import java.util.function.Predicate;
import java.util.function.Supplier;

/**
 * Two objects that were led the same way, one of which is also asked a call that must change
 * nothing. Whatever is asked later, both answer alike: so a change shows even where no call tells
 * of it at once (in the slot, the queue, the reports, the cells of a stream, a beginning).
 */
final class Twins {
  private static final List<Function<TeleStack, String>> LATER =
      List.of(
          Twins::theGroundGoesOn,
          Twins::theGroundBeginsAnew,
          Twins::theCommandsComeOut,
          Twins::theReportsAreHeard,
          Twins::thePacketsAreGot);

  private Twins() {}

  /** The call throws just this exception, and leaves the object as it was. */
  static void refused(
      String what,
      Supplier<TeleStack> scene,
      Class<? extends RuntimeException> kind,
      Consumer<TeleStack> call) {
    alike(what, scene, x -> Check.throwing(what, kind, () -> call.accept(x)));
  }

  /** The call answers false, and leaves the object as it was. */
  static void answersFalse(String what, Supplier<TeleStack> scene, Predicate<TeleStack> call) {
    alike(what, scene, x -> Check.due(what, call.test(x), false));
  }

  /** The call leaves the object as it was. */
  static void alike(String what, Supplier<TeleStack> scene, Consumer<TeleStack> call) {
    for (Function<TeleStack, String> later : LATER) {
      TeleStack asked = scene.get();
      call.accept(asked);
      String got = later.apply(asked);
      String want = later.apply(scene.get());
      Check.due(what + " changed " + want + " to " + got, got.equals(want), true);
    }
  }

  private static String theGroundGoesOn(TeleStack x) {
    StringBuilder told = new StringBuilder(Scene.allOf(x));
    for (int i = 0; i < 16; i++) {
      told.append(x.tick()).append(Scene.text(Scene.ground(x)));
    }
    for (int k = 0; k < x.ground(9); k++) {
      told.append(Scene.text(Scene.flight(x, k)));
    }
    return told.toString();
  }

  private static String theGroundBeginsAnew(TeleStack x) {
    StringBuilder told = new StringBuilder(Scene.allOf(x));
    endIfBusy(x);
    x.begin(0);
    for (int c = 801; c <= 805; c++) {
      told.append(x.command(c)).append(x.tick()).append(Scene.text(Scene.ground(x)));
    }
    for (int i = 0; i < 16; i++) {
      told.append(x.tick()).append(Scene.text(Scene.ground(x)));
    }
    return told.toString();
  }

  private static String theCommandsComeOut(TeleStack x) {
    StringBuilder told = new StringBuilder(Scene.allOf(x));
    takeAll(x, told);
    while (x.ground(9) > 0) {
      told.append(Scene.text(Scene.flight(x, 0)));
      x.raise(0);
      told.append(Scene.text(Scene.craft(x)));
      takeAll(x, told);
    }
    return told.toString();
  }

  private static void takeAll(TeleStack x, StringBuilder told) {
    while (x.craft(3) > 0) {
      told.append(" take ").append(x.take());
    }
  }

  /** Every report is heard by a ground that has four frames unacknowledged. */
  private static String theReportsAreHeard(TeleStack x) {
    StringBuilder told = new StringBuilder(Scene.allOf(x));
    while (x.ground(10) > 6) {
      x.answer(3, true);
    }
    while (x.ground(10) > 0) {
      endIfBusy(x);
      x.tune(4, 9, 20);
      x.number(0);
      x.begin(0);
      for (int c = 0; c < 4; c++) {
        x.command(c);
        x.tick();
      }
      x.answer(0, false);
      told.append(Scene.text(Scene.ground(x)));
    }
    return told.toString();
  }

  private static String thePacketsAreGot(TeleStack x) {
    StringBuilder told = new StringBuilder(Scene.allOf(x));
    for (int channel = 0; channel <= 1; channel++) {
      for (int i = 0; i < 12; i++) {
        told.append(x.frame(channel, false)).append(' ').append(x.packets()).append(' ');
      }
    }
    for (int k = 0; k < x.packets(); k++) {
      told.append(Scene.text(Scene.got(x, k)));
    }
    return told.toString();
  }

  private static void endIfBusy(TeleStack x) {
    if (x.ground(0) != Scene.IDLE) {
      x.end();
    }
  }
}
