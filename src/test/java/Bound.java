/** One number of a call: values that it takes, and values that it refuses without a change. */
final class Bound {
  interface Call {
    int by(FrostWills x, int v);
  }

  private final String name;
  private final Twins.Maker maker;
  private final Call call;

  Bound(String name, Twins.Maker maker, Call call) {
    this.name = name;
    this.maker = maker;
    this.call = call;
  }

  /** Of a house. */
  static Bound of(String name, Call call) {
    return new Bound(name, Twins::house, call);
  }

  Bound takes(int v, int want) {
    Due.due(name + " of " + v, call.by(maker.make(), v), want);
    return this;
  }

  Bound refuses(int error, int... values) {
    for (int v : values) {
      Twins.refused(name + " of " + v, maker, x -> call.by(x, v), error);
    }
    return this;
  }

  /** The first below and the first above, and as far away as an int goes. */
  Bound beyond(int below, int above) {
    return refuses(Due.BEYOND, below, above, Integer.MIN_VALUE, Integer.MAX_VALUE);
  }
}
