s
e
t
_
o
p
t
i
o
n
 
m
a
x
H
e
a
r
t
b
e
a
t
s
 
4
0
0
0
0
0
0
 
i
n


s
e
t
_
o
p
t
i
o
n
 
m
a
x
R
e
c
D
e
p
t
h
 
1
0
0
0
0
0
 
i
n


t
h
e
o
r
e
m
 
k
_
L
_
w
o
r
d
_
e
 
(
E
 
:
 
g
E
)
 
(
s
a
 
:
 
N
a
t
 
→
 
N
a
t
)
 
(
c
L
 
:
 
C
l
a
s
s
I
d
)
 
(
l
 
:
 
L
a
u
n
c
h
)
 
(
h
s
t
 
:
 
l
.
s
t
a
c
k
T
r
a
c
e
s
 
=
 
f
a
l
s
e
)
 
(
h
 
a
o
u
t
 
h
l
k
 
h
v
 
h
t
 
h
c
o
l
 
h
a
n
s
 
h
u
s
e
r
 
h
o
w
n
e
r
 
h
t
r
i
e
d
 
h
i
d
e
n
t
 
h
t
a
p
e
 
h
s
e
c
r
e
t
 
q
e
n
t
 
h
n
o
e
 
a
u
s
e
r
 
a
o
w
n
e
r
 
:
 
N
a
t
)
 
(
r
v
 
:
 
N
a
t
)
 
(
c
f
o
r
 
:
 
I
n
t
3
2
)
 
(
c
b
a
c
k
 
:
 
I
n
t
3
2
)
 
(
f
i
l
t
 
:
 
I
n
t
3
2
)
 
(
g
i
v
e
n
 
:
 
I
n
t
3
2
)
 
(
p
e
r
m
 
:
 
I
n
t
3
2
)
 
(
p
l
a
i
n
 
:
 
I
n
t
3
2
)
 
(
X
u
s
e
r
 
:
 
g
R
o
w
)
 
(
X
o
w
n
e
r
 
:
 
g
R
o
w
)
 
(
g
g
 
:
 
N
a
t
 
→
 
I
n
t
6
4
)
 
(
v
c
 
:
 
I
n
t
3
2
)
 
(
o
w
n
 
:
 
I
n
t
3
2
)
 
:
 
g
H
i
 
E
 
s
a
 
c
L
 
l
 
y
L
_
w
o
r
d
 
w
s
L
_
w
o
r
d
 
(
{
 
f
r
a
m
e
s
 
:
=
 
7
,
 
c
e
l
l
s
 
:
=
 
1
,
 
s
l
o
t
s
 
:
=
 
6
,
 
l
o
c
a
l
s
 
:
=
 
1
0
5
 
}
)
 
1
 
6
 
[
.
r
e
f
 
h
,
 
.
i
n
t
 
v
c
,
 
.
i
n
t
 
o
w
n
,
 
.
r
e
f
 
a
o
u
t
]
 
[
(
h
,
 
.
i
n
r
 
(
1
1
,
 
[
.
r
e
f
 
h
l
k
,
 
.
r
e
f
 
h
v
,
 
.
r
e
f
 
h
t
,
 
.
r
e
f
 
h
c
o
l
,
 
.
r
e
f
 
h
a
n
s
,
 
.
i
n
t
 
c
f
o
r
,
 
.
i
n
t
 
c
b
a
c
k
,
 
.
i
n
t
 
f
i
l
t
]
)
)
,
 
(
h
v
,
 
.
i
n
r
 
(
1
0
,
 
[
.
i
n
t
 
(
n
I
 
r
v
)
,
 
.
r
e
f
 
h
u
s
e
r
,
 
.
r
e
f
 
h
o
w
n
e
r
,
 
.
r
e
f
 
h
t
r
i
e
d
,
 
.
r
e
f
 
h
i
d
e
n
t
,
 
.
r
e
f
 
h
t
a
p
e
,
 
.
i
n
t
 
g
i
v
e
n
,
 
.
r
e
f
 
h
s
e
c
r
e
t
,
 
.
r
e
f
 
q
e
n
t
,
 
.
r
e
f
 
h
n
o
e
,
 
.
i
n
t
 
p
e
r
m
,
 
.
i
n
t
 
p
l
a
i
n
]
)
)
,
 
(
h
u
s
e
r
,
 
.
i
n
r
 
(
6
,
 
[
.
r
e
f
 
a
u
s
e
r
,
 
.
i
n
t
 
X
u
s
e
r
.
1
]
)
)
,
 
(
a
u
s
e
r
,
 
.
i
n
l
 
(
E
.
2
.
1
,
 
1
2
7
,
 
.
i
n
l
 
X
u
s
e
r
.
2
)
)
,
 
(
h
o
w
n
e
r
,
 
.
i
n
r
 
(
6
,
 
[
.
r
e
f
 
a
o
w
n
e
r
,
 
.
i
n
t
 
X
o
w
n
e
r
.
1
]
)
)
,
 
(
a
o
w
n
e
r
,
 
.
i
n
l
 
(
E
.
2
.
1
,
 
1
2
7
,
 
.
i
n
l
 
X
o
w
n
e
r
.
2
)
)
,
 
(
a
o
u
t
,
 
.
i
n
l
 
(
c
L
,
 
1
,
 
.
i
n
r
 
(
.
i
n
l
 
g
g
)
)
)
]
 
(
f
u
n
 
(
r
r
 
:
 
I
n
t
3
2
)
 
(
u
u
 
:
 
g
R
o
w
 
×
 
g
R
o
w
 
×
 
(
N
a
t
 
→
 
I
n
t
6
4
)
)
 
=
>
 
r
r
 
=
 
(
F
_
L
_
w
o
r
d
_
e
 
X
u
s
e
r
 
X
o
w
n
e
r
 
g
g
 
v
c
 
o
w
n
)
.
1
 
∧
 
u
u
 
=
 
(
F
_
L
_
w
o
r
d
_
e
 
X
u
s
e
r
 
X
o
w
n
e
r
 
g
g
 
v
c
 
o
w
n
)
.
2
)
 
(
f
u
n
 
(
u
u
 
:
 
g
R
o
w
 
×
 
g
R
o
w
 
×
 
(
N
a
t
 
→
 
I
n
t
6
4
)
)
 
=
>
 
[
(
h
,
 
.
i
n
r
 
(
1
1
,
 
[
.
r
e
f
 
h
l
k
,
 
.
r
e
f
 
h
v
,
 
.
r
e
f
 
h
t
,
 
.
r
e
f
 
h
c
o
l
,
 
.
r
e
f
 
h
a
n
s
,
 
.
i
n
t
 
c
f
o
r
,
 
.
i
n
t
 
c
b
a
c
k
,
 
.
i
n
t
 
f
i
l
t
]
)
)
,
 
(
h
v
,
 
.
i
n
r
 
(
1
0
,
 
[
.
i
n
t
 
(
n
I
 
r
v
)
,
 
.
r
e
f
 
h
u
s
e
r
,
 
.
r
e
f
 
h
o
w
n
e
r
,
 
.
r
e
f
 
h
t
r
i
e
d
,
 
.
r
e
f
 
h
i
d
e
n
t
,
 
.
r
e
f
 
h
t
a
p
e
,
 
.
i
n
t
 
g
i
v
e
n
,
 
.
r
e
f
 
h
s
e
c
r
e
t
,
 
.
r
e
f
 
q
e
n
t
,
 
.
r
e
f
 
h
n
o
e
,
 
.
i
n
t
 
p
e
r
m
,
 
.
i
n
t
 
p
l
a
i
n
]
)
)
,
 
(
h
u
s
e
r
,
 
.
i
n
r
 
(
6
,
 
[
.
r
e
f
 
a
u
s
e
r
,
 
.
i
n
t
 
u
u
.
1
.
1
]
)
)
,
 
(
a
u
s
e
r
,
 
.
i
n
l
 
(
E
.
2
.
1
,
 
1
2
7
,
 
.
i
n
l
 
u
u
.
1
.
2
)
)
,
 
(
h
o
w
n
e
r
,
 
.
i
n
r
 
(
6
,
 
[
.
r
e
f
 
a
o
w
n
e
r
,
 
.
i
n
t
 
u
u
.
2
.
1
.
1
]
)
)
,
 
(
a
o
w
n
e
r
,
 
.
i
n
l
 
(
E
.
2
.
1
,
 
1
2
7
,
 
.
i
n
l
 
u
u
.
2
.
1
.
2
)
)
,
 
(
a
o
u
t
,
 
.
i
n
l
 
(
c
L
,
 
1
,
 
.
i
n
r
 
(
.
i
n
l
 
u
u
.
2
.
2
)
)
)
]
)
 
:
=
 
b
y


 
 
i
n
t
r
o
 
s
z


 
 
r
e
f
i
n
e
 
v
x
_
o
f
W
H
 
(
h
h
 
:
=
 
[
(
0
,
 
1
0
,
 
1
3
,
 
1
3
)
]
)
 
(
c
c
 
:
=
 
c
L
_
w
o
r
d
)
 
(
m
a
x
L
 
:
=
 
5
)
 
(
r
e
t
 
:
=
 
(
s
o
m
e
 
.
i
n
t
)
)
 
(
b
y
 
d
e
c
i
d
e
)
 
r
f
l
 
?
_


 
 
i
n
t
r
o
 
p
 
e
 
s
 
m
 
a
r
g
s
 
b
e
l
o
w
 
m
e
t
h
 
c
 
s
₁
 
B
 
h
m
l
 
h
v


 
 
o
b
t
a
i
n
 
⟨
r
f
l
,
 
h
s
z
,
 
h
P
,
 
⟨
h
V
,
 
h
X
,
 
h
L
⟩
,
 
h
D
0
⟩
 
:
=
 
h
v


 
 
h
a
v
e
 
h
x
 
:
=
 
B
.
e
x
e
c


 
 
h
a
v
e
 
h
b
 
:
=
 
B
.
b
y
t
e
s


 
 
h
a
v
e
 
h
r
 
:
=
 
B
.
r
e
t
u
r
n
s


 
 
h
a
v
e
 
h
t
s
 
:
=
 
a
t
o
m
s
_
s
p
e
c
 
(
w
s
 
:
=
 
w
s
L
_
w
o
r
d
)
 
B
.
p
r
e


 
 
h
a
v
e
 
h
o
w
n
 
:
 
s
.
v
m
.
f
i
n
d
C
l
a
s
s
 
R
L
 
=
 
s
o
m
e
 
m
.
c
l
s
 
:
=
 
f
i
n
d
C
l
a
s
s
_
o
f
_
m
e
t
h
o
d
N
a
m
e
d
 
B
.
n
a
m
e
d


 
 
h
a
v
e
 
h
l
o
c
k
s
 
:
=
 
B
.
n
o
t
S
y
n
c
h
r
o
n
i
z
e
d


 
 
h
a
v
e
 
h
t
a
b
 
:
=
 
v
x
_
t
a
b
l
e
 
B
 
(
h
t
s
 
(
.
c
o
d
e
W
i
t
h
 
y
L
_
w
o
r
d
 
c
L
_
w
o
r
d
 
5
 
(
s
o
m
e
 
.
i
n
t
)
 
[
(
0
,
 
1
0
,
 
1
3
,
 
1
3
)
]
)
 
(
b
y
 
d
e
c
i
d
e
 
+
k
e
r
n
e
l
)
)


 
 
s
u
b
s
t
 
h
s
z


 
 
h
a
v
e
 
h
D
 
:
=
 
h
D
0
.
s
e
l
f
 
(
s
z
 
:
=
 
s
.
h
e
a
p
.
s
i
z
e
)


 
 
c
l
e
a
r
 
h
D
0


 
 
g
e
n
e
r
a
l
i
z
e
 
h
A
e
 
:
 
v
a
_
A
 
[
(
h
,
 
.
i
n
r
 
(
1
1
,
 
[
.
r
e
f
 
h
l
k
,
 
.
r
e
f
 
h
v
,
 
.
r
e
f
 
h
t
,
 
.
r
e
f
 
h
c
o
l
,
 
.
r
e
f
 
h
a
n
s
,
 
.
i
n
t
 
c
f
o
r
,
 
.
i
n
t
 
c
b
a
c
k
,
 
.
i
n
t
 
f
i
l
t
]
)
)
,
 
(
h
v
,
 
.
i
n
r
 
(
1
0
,
 
[
.
i
n
t
 
(
n
I
 
r
v
)
,
 
.
r
e
f
 
h
u
s
e
r
,
 
.
r
e
f
 
h
o
w
n
e
r
,
 
.
r
e
f
 
h
t
r
i
e
d
,
 
.
r
e
f
 
h
i
d
e
n
t
,
 
.
r
e
f
 
h
t
a
p
e
,
 
.
i
n
t
 
g
i
v
e
n
,
 
.
r
e
f
 
h
s
e
c
r
e
t
,
 
.
r
e
f
 
q
e
n
t
,
 
.
r
e
f
 
h
n
o
e
,
 
.
i
n
t
 
p
e
r
m
,
 
.
i
n
t
 
p
l
a
i
n
]
)
)
,
 
(
h
u
s
e
r
,
 
.
i
n
r
 
(
6
,
 
[
.
r
e
f
 
a
u
s
e
r
,
 
.
i
n
t
 
X
u
s
e
r
.
1
]
)
)
,
 
(
a
u
s
e
r
,
 
.
i
n
l
 
(
E
.
2
.
1
,
 
1
2
7
,
 
.
i
n
l
 
X
u
s
e
r
.
2
)
)
,
 
(
h
o
w
n
e
r
,
 
.
i
n
r
 
(
6
,
 
[
.
r
e
f
 
a
o
w
n
e
r
,
 
.
i
n
t
 
X
o
w
n
e
r
.
1
]
)
)
,
 
(
a
o
w
n
e
r
,
 
.
i
n
l
 
(
E
.
2
.
1
,
 
1
2
7
,
 
.
i
n
l
 
X
o
w
n
e
r
.
2
)
)
,
 
(
a
o
u
t
,
 
.
i
n
l
 
(
c
L
,
 
1
,
 
.
i
n
r
 
(
.
i
n
l
 
g
g
)
)
)
]
 
s
.
h
e
a
p
.
s
i
z
e
 
=
 
A
 
a
t
 
h
D
 
h
V
 
h
X
 
⊢


 
 
h
a
v
e
 
h
A
 
:
 
∀
 
q
 
:
 
N
a
t
,
 
s
.
h
e
a
p
.
s
i
z
e
 
≤
 
q
 
→
 
A
 
q
 
:
=
 
f
u
n
 
q
 
h
 
=
>
 
b
y
 
r
w
 
[
←
 
h
A
e
]
;
 
e
x
a
c
t
 
O
r
.
i
n
r
 
h


 
 
h
a
v
e
 
h
S
 
:
 
v
a
_
S
 
A
 
s
.
h
e
a
p
 
s
.
h
e
a
p
 
[
]
 
:
=
 
v
a
_
S
.
r
f


 
 
h
a
v
e
 
h
K
 
:
=
 
h
V
.
1


 
 
h
a
v
e
 
h
F
 
:
 
C
a
l
l
F
i
x
 
p
 
m
 
c
 
c
L
_
w
o
r
d
 
5
 
s
 
_
 
w
s
L
_
w
o
r
d
 
R
L
 
:
=
 
⟨
h
x
,
 
h
b
,
 
h
m
l
,
 
h
o
w
n
,
 
h
t
s
⟩


 
 
h
a
v
e
 
h
l
 
:
=
 
l
v
_
e
n
t
r
y
 
[
.
r
e
f
 
h
,
 
.
i
n
t
 
v
c
,
 
.
i
n
t
 
o
w
n
,
 
.
r
e
f
 
a
o
u
t
]
 
(
n
 
:
=
 
5
)
 
(
N
a
t
.
l
e
_
o
f
_
b
l
e
_
e
q
_
t
r
u
e
 
r
f
l
)


 
 
r
w
 
[
l
g
_
e
n
t
r
y
_
e
q
]


 
 
g
e
n
e
r
a
l
i
z
e
 
(
l
g
_
s
l
 
[
.
r
e
f
 
h
,
 
.
i
n
t
 
v
c
,
 
.
i
n
t
 
o
w
n
,
 
.
r
e
f
 
a
o
u
t
]
 
+
+
 
L
i
s
t
.
r
e
p
l
i
c
a
t
e
 
(
5
 
-
 
(
l
g
_
s
l
 
[
.
r
e
f
 
h
,
 
.
i
n
t
 
v
c
,
 
.
i
n
t
 
o
w
n
,
 
.
r
e
f
 
a
o
u
t
]
)
.
l
e
n
g
t
h
)
 
S
l
o
t
.
u
n
s
e
t
)
.
t
o
A
r
r
a
y
 
=
 
l
s
 
a
t
 
h
l
 
⊢


 
 
h
a
v
e
 
h
l
 
:
 
l
v
_
h
a
s
 
l
s
 
5
 
[
(
0
,
 
.
r
e
f
 
h
)
,
 
(
1
,
 
.
i
n
t
 
v
c
)
,
 
(
2
,
 
.
i
n
t
 
o
w
n
)
,
 
(
3
,
 
.
r
e
f
 
a
o
u
t
)
]
 
:
=
 
h
l


 
 
h
a
v
e
 
w
_
0
 
:
=
 
h
t
s
 
(
.
c
l
a
s
s
L
i
n
k
 
R
L
 
1
3
 
"
j
a
v
a
/
l
a
n
g
/
U
n
s
u
p
p
o
r
t
e
d
O
p
e
r
a
t
i
o
n
E
x
c
e
p
t
i
o
n
"
)
 
(
b
y
 
d
e
c
i
d
e
 
+
k
e
r
n
e
l
)


 
 
r
e
f
i
n
e
 
l
v
_
a
l
o
a
d
_
n
 
h
x
 
h
b
 
d
L
_
w
o
r
d
_
0
 
r
f
l
 
(
l
v
_
a
t
 
h
l
 
3
 
r
f
l
)
 
?
_


 
 
r
e
f
i
n
e
 
l
v
_
i
c
o
n
s
t
 
(
v
 
:
=
 
0
)
 
h
x
 
h
b
 
d
L
_
w
o
r
d
_
1
 
(
b
y
 
d
e
c
i
d
e
)
 
?
_


 
 
r
e
f
i
n
e
 
l
v
_
a
l
o
a
d
_
n
 
h
x
 
h
b
 
d
L
_
w
o
r
d
_
2
 
r
f
l
 
(
l
v
_
a
t
 
h
l
 
0
 
r
f
l
)
 
?
_


 
 
r
e
f
i
n
e
 
l
v
_
i
l
o
a
d
_
n
 
h
x
 
h
b
 
d
L
_
w
o
r
d
_
3
 
r
f
l
 
(
l
v
_
a
t
 
h
l
 
1
 
r
f
l
)
 
?
_


 
 
r
e
f
i
n
e
 
l
v
_
i
l
o
a
d
_
n
 
h
x
 
h
b
 
d
L
_
w
o
r
d
_
4
 
r
f
l
 
(
l
v
_
a
t
 
h
l
 
2
 
r
f
l
)
 
?
_


 
 
o
b
t
a
i
n
 
⟨
t
_
2
5
,
 
h
t
_
2
5
⟩
 
:
 
∃
 
t
9
 
:
 
N
a
t
 
×
 
(
I
n
t
3
2
 
×
 
(
g
R
o
w
 
×
 
g
R
o
w
)
)
,
 
t
9
 
=
 
F
_
X
1
0
_
w
o
r
d
_
e
 
X
u
s
e
r
 
X
o
w
n
e
r
 
v
c
 
o
w
n
 
:
=
 
⟨
_
,
 
r
f
l
⟩


 
 
r
e
f
i
n
e
 
g
T
V
i
 
h
F
 
h
l
 
h
V
 
h
X
 
h
P
 
h
D
 
h
S
 
h
A
 
[
0
,
 
1
,
 
2
,
 
3
,
 
4
,
 
5
]
 
[
6
]
 
(
w
c
 
:
=
 
[
(
h
,
 
.
i
n
r
 
(
1
1
,
 
[
.
r
e
f
 
h
l
k
,
 
.
r
e
f
 
h
v
,
 
.
r
e
f
 
h
t
,
 
.
r
e
f
 
h
c
o
l
,
 
.
r
e
f
 
h
a
n
s
,
 
.
i
n
t
 
c
f
o
r
,
 
.
i
n
t
 
c
b
a
c
k
,
 
.
i
n
t
 
f
i
l
t
]
)
)
,
 
(
h
v
,
 
.
i
n
r
 
(
1
0
,
 
[
.
i
n
t
 
(
n
I
 
r
v
)
,
 
.
r
e
f
 
h
u
s
e
r
,
 
.
r
e
f
 
h
o
w
n
e
r
,
 
.
r
e
f
 
h
t
r
i
e
d
,
 
.
r
e
f
 
h
i
d
e
n
t
,
 
.
r
e
f
 
h
t
a
p
e
,
 
.
i
n
t
 
g
i
v
e
n
,
 
.
r
e
f
 
h
s
e
c
r
e
t
,
 
.
r
e
f
 
q
e
n
t
,
 
.
r
e
f
 
h
n
o
e
,
 
.
i
n
t
 
p
e
r
m
,
 
.
i
n
t
 
p
l
a
i
n
]
)
)
,
 
(
h
u
s
e
r
,
 
.
i
n
r
 
(
6
,
 
[
.
r
e
f
 
a
u
s
e
r
,
 
.
i
n
t
 
X
u
s
e
r
.
1
]
)
)
,
 
(
a
u
s
e
r
,
 
.
i
n
l
 
(
E
.
2
.
1
,
 
1
2
7
,
 
.
i
n
l
 
X
u
s
e
r
.
2
)
)
,
 
(
h
o
w
n
e
r
,
 
.
i
n
r
 
(
6
,
 
[
.
r
e
f
 
a
o
w
n
e
r
,
 
.
i
n
t
 
X
o
w
n
e
r
.
1
]
)
)
,
 
(
a
o
w
n
e
r
,
 
.
i
n
l
 
(
E
.
2
.
1
,
 
1
2
7
,
 
.
i
n
l
 
X
o
w
n
e
r
.
2
)
)
]
)
 
(
w
r
 
:
=
 
[
(
a
o
u
t
,
 
.
i
n
l
 
(
c
L
,
 
1
,
 
.
i
n
r
 
(
.
i
n
l
 
g
g
)
)
)
]
)
 
r
f
l
 
r
f
l
 
r
f
l
 
(
b
y
 
d
e
c
i
d
e
)
 
0
 
1
1
 
r
f
l
 
r
f
l
 
r
f
l
 
(
k
_
X
1
0
_
w
o
r
d
_
e
 
E
 
s
a
 
l
 
h
s
t
 
h
 
h
l
k
 
h
v
 
h
t
 
h
c
o
l
 
h
a
n
s
 
h
u
s
e
r
 
h
o
w
n
e
r
 
h
t
r
i
e
d
 
h
i
d
e
n
t
 
h
t
a
p
e
 
h
s
e
c
r
e
t
 
q
e
n
t
 
h
n
o
e
 
a
u
s
e
r
 
a
o
w
n
e
r
 
r
v
 
c
f
o
r
 
c
b
a
c
k
 
f
i
l
t
 
g
i
v
e
n
 
p
e
r
m
 
p
l
a
i
n
 
X
u
s
e
r
 
X
o
w
n
e
r
 
v
c
 
o
w
n
)
 
(
c
w
V
 
2
 
h
t
s
 
g
L
_
w
o
r
d
_
X
1
0
_
w
o
r
d
 
r
f
l
 
r
f
l
 
r
f
l
 
(
b
y
 
d
e
c
i
d
e
 
+
k
e
r
n
e
l
)
 
⟨
N
a
t
.
l
e
_
o
f
_
b
l
e
_
e
q
_
t
r
u
e
 
r
f
l
,
 
N
a
t
.
l
e
_
o
f
_
b
l
e
_
e
q
_
t
r
u
e
 
r
f
l
⟩
)
 
r
f
l
 
r
f
l
 
r
f
l
 
(
N
a
t
.
l
e
_
o
f
_
b
l
e
_
e
q
_
t
r
u
e
 
r
f
l
)
 
d
L
_
w
o
r
d
_
5
 
⟨
N
a
t
.
l
e
_
o
f
_
b
l
e
_
e
q
_
t
r
u
e
 
r
f
l
,
 
N
a
t
.
l
e
_
o
f
_
b
l
e
_
e
q
_
t
r
u
e
 
r
f
l
⟩
 
(
f
u
n
 
n
m
_
2
6
 
c
e
_
2
6
 
q
_
2
6
 
H
_
2
7
 
l
o
c
s
_
2
7
 
p
x
_
2
6
 
h
P
_
2
7
 
h
D
_
2
7
 
h
S
_
2
7
 
h
c
e
_
2
6
 
h
c
v
_
2
6
 
h
c
l
_
2
6
 
=
>
 
?
_
)
 
(
f
u
n
 
r
_
2
3
 
u
_
2
3
 
H
_
2
4
 
l
o
c
s
_
2
4
 
h
u
_
2
3
 
h
P
_
2
4
 
h
D
_
2
4
 
h
S
_
2
4
 
=
>
 
?
_
)


 
 
·
 
r
e
p
l
a
c
e
 
h
P
_
2
7
 
:
 
v
a
_
P
 
E
.
1
 
v
w
C
l
 
[
(
a
o
u
t
,
 
.
i
n
l
 
(
c
L
,
 
1
,
 
.
i
n
r
 
(
.
i
n
l
 
g
g
)
)
)
,
 
(
h
,
 
.
i
n
r
 
(
1
1
,
 
[
.
r
e
f
 
h
l
k
,
 
.
r
e
f
 
h
v
,
 
.
r
e
f
 
h
t
,
 
.
r
e
f
 
h
c
o
l
,
 
.
r
e
f
 
h
a
n
s
,
 
.
i
n
t
 
c
f
o
r
,
 
.
i
n
t
 
c
b
a
c
k
,
 
.
i
n
t
 
f
i
l
t
]
)
)
,
 
(
h
v
,
 
.
i
n
r
 
(
1
0
,
 
[
.
i
n
t
 
(
n
I
 
r
v
)
,
 
.
r
e
f
 
h
u
s
e
r
,
 
.
r
e
f
 
h
o
w
n
e
r
,
 
.
r
e
f
 
h
t
r
i
e
d
,
 
.
r
e
f
 
h
i
d
e
n
t
,
 
.
r
e
f
 
h
t
a
p
e
,
 
.
i
n
t
 
g
i
v
e
n
,
 
.
r
e
f
 
h
s
e
c
r
e
t
,
 
.
r
e
f
 
q
e
n
t
,
 
.
r
e
f
 
h
n
o
e
,
 
.
i
n
t
 
p
e
r
m
,
 
.
i
n
t
 
p
l
a
i
n
]
)
)
,
 
(
h
u
s
e
r
,
 
.
i
n
r
 
(
6
,
 
[
.
r
e
f
 
a
u
s
e
r
,
 
.
i
n
t
 
X
u
s
e
r
.
1
]
)
)
,
 
(
a
u
s
e
r
,
 
.
i
n
l
 
(
E
.
2
.
1
,
 
1
2
7
,
 
.
i
n
l
 
X
u
s
e
r
.
2
)
)
,
 
(
h
o
w
n
e
r
,
 
.
i
n
r
 
(
6
,
 
[
.
r
e
f
 
a
o
w
n
e
r
,
 
.
i
n
t
 
X
o
w
n
e
r
.
1
]
)
)
,
 
(
a
o
w
n
e
r
,
 
.
i
n
l
 
(
E
.
2
.
1
,
 
1
2
7
,
 
.
i
n
l
 
X
o
w
n
e
r
.
2
)
)
]
 
H
_
2
7
 
:
=
 
h
P
_
2
7


 
 
 
 
r
e
p
l
a
c
e
 
h
D
_
2
7
 
:
 
v
a
_
D
 
A
 
[
(
a
o
u
t
,
 
.
i
n
l
 
(
c
L
,
 
1
,
 
.
i
n
r
 
(
.
i
n
l
 
g
g
)
)
)
,
 
(
h
,
 
.
i
n
r
 
(
1
1
,
 
[
.
r
e
f
 
h
l
k
,
 
.
r
e
f
 
h
v
,
 
.
r
e
f
 
h
t
,
 
.
r
e
f
 
h
c
o
l
,
 
.
r
e
f
 
h
a
n
s
,
 
.
i
n
t
 
c
f
o
r
,
 
.
i
n
t
 
c
b
a
c
k
,
 
.
i
n
t
 
f
i
l
t
]
)
)
,
 
(
h
v
,
 
.
i
n
r
 
(
1
0
,
 
[
.
i
n
t
 
(
n
I
 
r
v
)
,
 
.
r
e
f
 
h
u
s
e
r
,
 
.
r
e
f
 
h
o
w
n
e
r
,
 
.
r
e
f
 
h
t
r
i
e
d
,
 
.
r
e
f
 
h
i
d
e
n
t
,
 
.
r
e
f
 
h
t
a
p
e
,
 
.
i
n
t
 
g
i
v
e
n
,
 
.
r
e
f
 
h
s
e
c
r
e
t
,
 
.
r
e
f
 
q
e
n
t
,
 
.
r
e
f
 
h
n
o
e
,
 
.
i
n
t
 
p
e
r
m
,
 
.
i
n
t
 
p
l
a
i
n
]
)
)
,
 
(
h
u
s
e
r
,
 
.
i
n
r
 
(
6
,
 
[
.
r
e
f
 
a
u
s
e
r
,
 
.
i
n
t
 
X
u
s
e
r
.
1
]
)
)
,
 
(
a
u
s
e
r
,
 
.
i
n
l
 
(
E
.
2
.
1
,
 
1
2
7
,
 
.
i
n
l
 
X
u
s
e
r
.
2
)
)
,
 
(
h
o
w
n
e
r
,
 
.
i
n
r
 
(
6
,
 
[
.
r
e
f
 
a
o
w
n
e
r
,
 
.
i
n
t
 
X
o
w
n
e
r
.
1
]
)
)
,
 
(
a
o
w
n
e
r
,
 
.
i
n
l
 
(
E
.
2
.
1
,
 
1
2
7
,
 
.
i
n
l
 
X
o
w
n
e
r
.
2
)
)
]
 
:
=
 
h
D
_
2
7


 
 
 
 
c
l
e
a
r
 
h
P
 
h
D
 
h
S


 
 
 
 
h
a
v
e
 
c
_
2
8
 
:
 
¬
 
t
_
2
5
.
1
 
=
 
0
 
:
=
 
b
y
 
r
w
 
[
h
t
_
2
5
]
;
 
e
x
a
c
t
 
p
x
_
2
6
.
2


 
 
 
 
h
a
v
e
 
c
_
2
9
 
:
 
t
_
2
5
.
1
 
=
 
5
 
:
=
 
b
y
 
h
a
v
e
 
q
9
 
:
=
 
L
c
_
X
1
0
_
w
o
r
d
_
e
 
_
 
_
 
_
 
_
;
 
r
w
 
[
←
 
h
t
_
2
5
]
 
a
t
 
q
9
;
 
o
m
e
g
a


 
 
 
 
o
b
t
a
i
n
 
r
f
l
 
:
 
n
m
_
2
6
 
=
 
"
j
a
v
a
/
l
a
n
g
/
U
n
s
u
p
p
o
r
t
e
d
O
p
e
r
a
t
i
o
n
E
x
c
e
p
t
i
o
n
"
 
:
=
 
p
x
_
2
6
.
1
.
t
r
a
n
s
 
(
b
y
 
r
w
 
[
←
 
h
t
_
2
5
,
 
c
_
2
9
]
;
 
r
f
l
)


 
 
 
 
r
e
f
i
n
e
 
v
x
_
c
a
t
c
h
 
h
o
w
n
 
[
]
 
⟨
0
,
 
1
0
,
 
1
3
,
 
1
3
⟩
 
[
]
 
(
b
y
 
r
w
 
[
h
t
a
b
]
;
 
r
f
l
)
 
(
f
u
n
 
z
 
h
9
 
=
>
 
a
b
s
u
r
d
 
h
9
 
L
i
s
t
.
n
o
t
_
m
e
m
_
n
i
l
)
 
(
b
y
 
d
e
c
i
d
e
)
 
(
b
y
 
d
e
c
i
d
e
)
 
w
_
0
 
(
v
a
_
N
w
.
u
s
e
 
r
f
l
 
(
h
X
.
2
.
1
 
(
.
c
a
s
t
a
b
l
e
 
"
j
a
v
a
/
l
a
n
g
/
U
n
s
u
p
p
o
r
t
e
d
O
p
e
r
a
t
i
o
n
E
x
c
e
p
t
i
o
n
"
 
"
j
a
v
a
/
l
a
n
g
/
U
n
s
u
p
p
o
r
t
e
d
O
p
e
r
a
t
i
o
n
E
x
c
e
p
t
i
o
n
"
)
 
(
b
y
 
d
e
c
i
d
e
 
+
k
e
r
n
e
l
)
)
)
 
h
c
e
_
2
6
 
h
c
v
_
2
6
 
h
c
l
_
2
6
 
?
_


 
 
 
 
r
e
f
i
n
e
 
l
v
_
a
s
t
o
r
e
 
(
l
v
'
 
:
=
 
[
(
4
,
 
.
r
e
f
 
q
_
2
6
)
,
 
(
0
,
 
.
r
e
f
 
h
)
,
 
(
1
,
 
.
i
n
t
 
v
c
)
,
 
(
2
,
 
.
i
n
t
 
o
w
n
)
,
 
(
3
,
 
.
r
e
f
 
a
o
u
t
)
]
)
 
h
x
 
h
b
 
d
L
_
w
o
r
d
_
1
3
 
h
l
 
(
b
y
 
d
e
c
i
d
e
)
 
r
f
l
 
(
f
u
n
 
l
s
_
3
0
 
h
l
_
3
0
 
=
>
 
?
_
)


 
 
 
 
c
l
e
a
r
 
h
l


 
 
 
 
r
e
f
i
n
e
 
l
v
_
i
c
o
n
s
t
 
(
v
 
:
=
 
1
)
 
h
x
 
h
b
 
d
L
_
w
o
r
d
_
1
5
 
(
b
y
 
d
e
c
i
d
e
)
 
?
_


 
 
 
 
r
e
f
i
n
e
 
v
x
_
r
e
t
 
?
_


 
 
 
 
h
a
v
e
 
h
p
o
s
t
 
:
 
(
(
1
,
 
(
X
u
s
e
r
,
 
X
o
w
n
e
r
,
 
g
g
)
)
 
:
 
I
n
t
3
2
 
×
 
(
g
R
o
w
 
×
 
g
R
o
w
 
×
 
(
N
a
t
 
→
 
I
n
t
6
4
)
)
)
 
=
 
F
_
L
_
w
o
r
d
_
e
 
X
u
s
e
r
 
X
o
w
n
e
r
 
g
g
 
v
c
 
o
w
n
 
:
=
 
(
s
h
o
w
 
F
_
L
_
w
o
r
d
_
e
 
X
u
s
e
r
 
X
o
w
n
e
r
 
g
g
 
v
c
 
o
w
n
 
=
 
(
(
1
,
 
(
X
u
s
e
r
,
 
X
o
w
n
e
r
,
 
g
g
)
)
 
:
 
I
n
t
3
2
 
×
 
(
g
R
o
w
 
×
 
g
R
o
w
 
×
 
(
N
a
t
 
→
 
I
n
t
6
4
)
)
)
 
f
r
o
m
 
(
g
L
e
t
_
e
q
 
h
t
_
2
5
 
(
(
i
f
_
n
e
g
 
c
_
2
8
)
.
t
r
a
n
s
 
r
f
l
)
)
)
.
s
y
m
m


 
 
 
 
h
a
v
e
 
h
P
9
 
:
=
 
h
P
_
2
7
.
s
u
b
 
(
w
s
'
 
:
=
 
[
(
h
,
 
.
i
n
r
 
(
1
1
,
 
[
.
r
e
f
 
h
l
k
,
 
.
r
e
f
 
h
v
,
 
.
r
e
f
 
h
t
,
 
.
r
e
f
 
h
c
o
l
,
 
.
r
e
f
 
h
a
n
s
,
 
.
i
n
t
 
c
f
o
r
,
 
.
i
n
t
 
c
b
a
c
k
,
 
.
i
n
t
 
f
i
l
t
]
)
)
,
 
(
h
v
,
 
.
i
n
r
 
(
1
0
,
 
[
.
i
n
t
 
(
n
I
 
r
v
)
,
 
.
r
e
f
 
h
u
s
e
r
,
 
.
r
e
f
 
h
o
w
n
e
r
,
 
.
r
e
f
 
h
t
r
i
e
d
,
 
.
r
e
f
 
h
i
d
e
n
t
,
 
.
r
e
f
 
h
t
a
p
e
,
 
.
i
n
t
 
g
i
v
e
n
,
 
.
r
e
f
 
h
s
e
c
r
e
t
,
 
.
r
e
f
 
q
e
n
t
,
 
.
r
e
f
 
h
n
o
e
,
 
.
i
n
t
 
p
e
r
m
,
 
.
i
n
t
 
p
l
a
i
n
]
)
)
,
 
(
h
u
s
e
r
,
 
.
i
n
r
 
(
6
,
 
[
.
r
e
f
 
a
u
s
e
r
,
 
.
i
n
t
 
X
u
s
e
r
.
1
]
)
)
,
 
(
a
u
s
e
r
,
 
.
i
n
l
 
(
E
.
2
.
1
,
 
1
2
7
,
 
.
i
n
l
 
X
u
s
e
r
.
2
)
)
,
 
(
h
o
w
n
e
r
,
 
.
i
n
r
 
(
6
,
 
[
.
r
e
f
 
a
o
w
n
e
r
,
 
.
i
n
t
 
X
o
w
n
e
r
.
1
]
)
)
,
 
(
a
o
w
n
e
r
,
 
.
i
n
l
 
(
E
.
2
.
1
,
 
1
2
7
,
 
.
i
n
l
 
X
o
w
n
e
r
.
2
)
)
,
 
(
a
o
u
t
,
 
.
i
n
l
 
(
c
L
,
 
1
,
 
.
i
n
r
 
(
.
i
n
l
 
g
g
)
)
)
]
)
 
[
1
,
 
2
,
 
3
,
 
4
,
 
5
,
 
6
,
 
0
]
 
r
f
l


 
 
 
 
h
a
v
e
 
h
D
9
 
:
=
 
h
D
_
2
7
.
s
u
b
 
(
w
s
'
 
:
=
 
[
(
h
,
 
.
i
n
r
 
(
1
1
,
 
[
.
r
e
f
 
h
l
k
,
 
.
r
e
f
 
h
v
,
 
.
r
e
f
 
h
t
,
 
.
r
e
f
 
h
c
o
l
,
 
.
r
e
f
 
h
a
n
s
,
 
.
i
n
t
 
c
f
o
r
,
 
.
i
n
t
 
c
b
a
c
k
,
 
.
i
n
t
 
f
i
l
t
]
)
)
,
 
(
h
v
,
 
.
i
n
r
 
(
1
0
,
 
[
.
i
n
t
 
(
n
I
 
r
v
)
,
 
.
r
e
f
 
h
u
s
e
r
,
 
.
r
e
f
 
h
o
w
n
e
r
,
 
.
r
e
f
 
h
t
r
i
e
d
,
 
.
r
e
f
 
h
i
d
e
n
t
,
 
.
r
e
f
 
h
t
a
p
e
,
 
.
i
n
t
 
g
i
v
e
n
,
 
.
r
e
f
 
h
s
e
c
r
e
t
,
 
.
r
e
f
 
q
e
n
t
,
 
.
r
e
f
 
h
n
o
e
,
 
.
i
n
t
 
p
e
r
m
,
 
.
i
n
t
 
p
l
a
i
n
]
)
)
,
 
(
h
u
s
e
r
,
 
.
i
n
r
 
(
6
,
 
[
.
r
e
f
 
a
u
s
e
r
,
 
.
i
n
t
 
X
u
s
e
r
.
1
]
)
)
,
 
(
a
u
s
e
r
,
 
.
i
n
l
 
(
E
.
2
.
1
,
 
1
2
7
,
 
.
i
n
l
 
X
u
s
e
r
.
2
)
)
,
 
(
h
o
w
n
e
r
,
 
.
i
n
r
 
(
6
,
 
[
.
r
e
f
 
a
o
w
n
e
r
,
 
.
i
n
t
 
X
o
w
n
e
r
.
1
]
)
)
,
 
(
a
o
w
n
e
r
,
 
.
i
n
l
 
(
E
.
2
.
1
,
 
1
2
7
,
 
.
i
n
l
 
X
o
w
n
e
r
.
2
)
)
,
 
(
a
o
u
t
,
 
.
i
n
l
 
(
c
L
,
 
1
,
 
.
i
n
r
 
(
.
i
n
l
 
g
g
)
)
)
]
)
 
[
1
,
 
2
,
 
3
,
 
4
,
 
5
,
 
6
,
 
0
]
 
(
b
y
 
d
e
c
i
d
e
)
 
r
f
l


 
 
 
 
e
x
a
c
t
 
W
.
i
r
e
t
 
(
v
 
:
=
 
1
)
 
h
x
 
h
b
 
h
r
 
(
f
u
n
 
t
 
h
t
 
h
W
 
=
>
 
⟨
⟨
1
,
 
(
X
u
s
e
r
,
 
X
o
w
n
e
r
,
 
g
g
)
,
 
r
f
l
,
 
⟨
c
o
n
g
r
A
r
g
 
P
r
o
d
.
f
s
t
 
h
p
o
s
t
,
 
c
o
n
g
r
A
r
g
 
P
r
o
d
.
s
n
d
 
h
p
o
s
t
⟩
,
 
b
y
 
r
w
 
[
h
t
]
;
 
e
x
a
c
t
 
h
P
9
,
 
h
D
9
⟩
,
 
h
S
_
2
7
.
F
 
h
t
⟩
)
 
h
S
_
2
7
.
2
.
2
 
d
L
_
w
o
r
d
_
1
6


 
 
·
 
h
a
v
e
 
e
_
3
2
 
:
 
t
_
2
5
 
=
 
(
(
0
,
 
(
r
_
2
3
,
 
u
_
2
3
)
)
 
:
 
N
a
t
 
×
 
(
I
n
t
3
2
 
×
 
(
g
R
o
w
 
×
 
g
R
o
w
)
)
)
 
:
=
 
h
t
_
2
5
.
t
r
a
n
s
 
h
u
_
2
3
.
s
y
m
m


 
 
 
 
h
a
v
e
 
c
_
3
1
 
:
 
t
_
2
5
.
1
 
=
 
0
 
:
=
 
b
y
 
r
w
 
[
e
_
3
2
]


 
 
 
 
o
b
t
a
i
n
 
r
f
l
 
:
 
r
_
2
3
 
=
 
t
_
2
5
.
2
.
1
 
:
=
 
(
c
o
n
g
r
A
r
g
 
(
f
u
n
 
z
 
:
 
N
a
t
 
×
 
(
I
n
t
3
2
 
×
 
(
g
R
o
w
 
×
 
g
R
o
w
)
)
 
=
>
 
z
.
2
.
1
)
 
e
_
3
2
)
.
s
y
m
m


 
 
 
 
o
b
t
a
i
n
 
r
f
l
 
:
 
u
_
2
3
 
=
 
t
_
2
5
.
2
.
2
 
:
=
 
(
c
o
n
g
r
A
r
g
 
(
f
u
n
 
z
 
:
 
N
a
t
 
×
 
(
I
n
t
3
2
 
×
 
(
g
R
o
w
 
×
 
g
R
o
w
)
)
 
=
>
 
z
.
2
.
2
)
 
e
_
3
2
)
.
s
y
m
m


 
 
 
 
r
e
p
l
a
c
e
 
h
P
_
2
4
 
:
 
v
a
_
P
 
E
.
1
 
v
w
C
l
 
[
(
a
o
u
t
,
 
.
i
n
l
 
(
c
L
,
 
1
,
 
.
i
n
r
 
(
.
i
n
l
 
g
g
)
)
)
,
 
(
h
,
 
.
i
n
r
 
(
1
1
,
 
[
.
r
e
f
 
h
l
k
,
 
.
r
e
f
 
h
v
,
 
.
r
e
f
 
h
t
,
 
.
r
e
f
 
h
c
o
l
,
 
.
r
e
f
 
h
a
n
s
,
 
.
i
n
t
 
c
f
o
r
,
 
.
i
n
t
 
c
b
a
c
k
,
 
.
i
n
t
 
f
i
l
t
]
)
)
,
 
(
h
v
,
 
.
i
n
r
 
(
1
0
,
 
[
.
i
n
t
 
(
n
I
 
r
v
)
,
 
.
r
e
f
 
h
u
s
e
r
,
 
.
r
e
f
 
h
o
w
n
e
r
,
 
.
r
e
f
 
h
t
r
i
e
d
,
 
.
r
e
f
 
h
i
d
e
n
t
,
 
.
r
e
f
 
h
t
a
p
e
,
 
.
i
n
t
 
g
i
v
e
n
,
 
.
r
e
f
 
h
s
e
c
r
e
t
,
 
.
r
e
f
 
q
e
n
t
,
 
.
r
e
f
 
h
n
o
e
,
 
.
i
n
t
 
p
e
r
m
,
 
.
i
n
t
 
p
l
a
i
n
]
)
)
,
 
(
h
u
s
e
r
,
 
.
i
n
r
 
(
6
,
 
[
.
r
e
f
 
a
u
s
e
r
,
 
.
i
n
t
 
t
_
2
5
.
2
.
2
.
1
.
1
]
)
)
,
 
(
a
u
s
e
r
,
 
.
i
n
l
 
(
E
.
2
.
1
,
 
1
2
7
,
 
.
i
n
l
 
t
_
2
5
.
2
.
2
.
1
.
2
)
)
,
 
(
h
o
w
n
e
r
,
 
.
i
n
r
 
(
6
,
 
[
.
r
e
f
 
a
o
w
n
e
r
,
 
.
i
n
t
 
t
_
2
5
.
2
.
2
.
2
.
1
]
)
)
,
 
(
a
o
w
n
e
r
,
 
.
i
n
l
 
(
E
.
2
.
1
,
 
1
2
7
,
 
.
i
n
l
 
t
_
2
5
.
2
.
2
.
2
.
2
)
)
]
 
H
_
2
4
 
:
=
 
h
P
_
2
4


 
 
 
 
r
e
p
l
a
c
e
 
h
D
_
2
4
 
:
 
v
a
_
D
 
A
 
[
(
a
o
u
t
,
 
.
i
n
l
 
(
c
L
,
 
1
,
 
.
i
n
r
 
(
.
i
n
l
 
g
g
)
)
)
,
 
(
h
,
 
.
i
n
r
 
(
1
1
,
 
[
.
r
e
f
 
h
l
k
,
 
.
r
e
f
 
h
v
,
 
.
r
e
f
 
h
t
,
 
.
r
e
f
 
h
c
o
l
,
 
.
r
e
f
 
h
a
n
s
,
 
.
i
n
t
 
c
f
o
r
,
 
.
i
n
t
 
c
b
a
c
k
,
 
.
i
n
t
 
f
i
l
t
]
)
)
,
 
(
h
v
,
 
.
i
n
r
 
(
1
0
,
 
[
.
i
n
t
 
(
n
I
 
r
v
)
,
 
.
r
e
f
 
h
u
s
e
r
,
 
.
r
e
f
 
h
o
w
n
e
r
,
 
.
r
e
f
 
h
t
r
i
e
d
,
 
.
r
e
f
 
h
i
d
e
n
t
,
 
.
r
e
f
 
h
t
a
p
e
,
 
.
i
n
t
 
g
i
v
e
n
,
 
.
r
e
f
 
h
s
e
c
r
e
t
,
 
.
r
e
f
 
q
e
n
t
,
 
.
r
e
f
 
h
n
o
e
,
 
.
i
n
t
 
p
e
r
m
,
 
.
i
n
t
 
p
l
a
i
n
]
)
)
,
 
(
h
u
s
e
r
,
 
.
i
n
r
 
(
6
,
 
[
.
r
e
f
 
a
u
s
e
r
,
 
.
i
n
t
 
t
_
2
5
.
2
.
2
.
1
.
1
]
)
)
,
 
(
a
u
s
e
r
,
 
.
i
n
l
 
(
E
.
2
.
1
,
 
1
2
7
,
 
.
i
n
l
 
t
_
2
5
.
2
.
2
.
1
.
2
)
)
,
 
(
h
o
w
n
e
r
,
 
.
i
n
r
 
(
6
,
 
[
.
r
e
f
 
a
o
w
n
e
r
,
 
.
i
n
t
 
t
_
2
5
.
2
.
2
.
2
.
1
]
)
)
,
 
(
a
o
w
n
e
r
,
 
.
i
n
l
 
(
E
.
2
.
1
,
 
1
2
7
,
 
.
i
n
l
 
t
_
2
5
.
2
.
2
.
2
.
2
)
)
]
 
:
=
 
h
D
_
2
4


 
 
 
 
c
l
e
a
r
 
h
P
 
h
D
 
h
S


 
 
 
 
r
e
f
i
n
e
 
l
v
_
i
2
l
 
(
v
 
:
=
 
t
_
2
5
.
2
.
1
.
t
o
I
n
t
6
4
)
 
h
x
 
h
b
 
d
L
_
w
o
r
d
_
8
 
r
f
l
 
?
_


 
 
 
 
r
e
f
i
n
e
 
v
a
_
l
a
s
t
 
h
x
 
h
b
 
h
L
 
h
P
_
2
4
 
h
D
_
2
4
 
h
S
_
2
4
 
0
 
2
 
r
f
l
 
r
f
l
 
(
b
y
 
d
e
c
i
d
e
)
 
d
L
_
w
o
r
d
_
9
 
(
f
u
n
 
H
_
3
3
 
l
o
c
s
_
3
3
 
h
P
_
3
3
 
h
D
_
3
3
 
h
S
_
3
3
 
=
>
 
?
_
)


 
 
 
 
r
e
p
l
a
c
e
 
h
P
_
3
3
 
:
 
v
a
_
P
 
E
.
1
 
v
w
C
l
 
[
(
a
o
u
t
,
 
.
i
n
l
 
(
c
L
,
 
1
,
 
.
i
n
r
 
(
.
i
n
l
 
(
v
p
_
u
p
d
L
 
g
g
 
(
0
 
:
 
I
n
t
3
2
)
.
t
o
N
a
t
C
l
a
m
p
N
e
g
 
(
t
_
2
5
.
2
.
1
.
t
o
I
n
t
6
4
)
)
)
)
)
,
 
(
h
,
 
.
i
n
r
 
(
1
1
,
 
[
.
r
e
f
 
h
l
k
,
 
.
r
e
f
 
h
v
,
 
.
r
e
f
 
h
t
,
 
.
r
e
f
 
h
c
o
l
,
 
.
r
e
f
 
h
a
n
s
,
 
.
i
n
t
 
c
f
o
r
,
 
.
i
n
t
 
c
b
a
c
k
,
 
.
i
n
t
 
f
i
l
t
]
)
)
,
 
(
h
v
,
 
.
i
n
r
 
(
1
0
,
 
[
.
i
n
t
 
(
n
I
 
r
v
)
,
 
.
r
e
f
 
h
u
s
e
r
,
 
.
r
e
f
 
h
o
w
n
e
r
,
 
.
r
e
f
 
h
t
r
i
e
d
,
 
.
r
e
f
 
h
i
d
e
n
t
,
 
.
r
e
f
 
h
t
a
p
e
,
 
.
i
n
t
 
g
i
v
e
n
,
 
.
r
e
f
 
h
s
e
c
r
e
t
,
 
.
r
e
f
 
q
e
n
t
,
 
.
r
e
f
 
h
n
o
e
,
 
.
i
n
t
 
p
e
r
m
,
 
.
i
n
t
 
p
l
a
i
n
]
)
)
,
 
(
h
u
s
e
r
,
 
.
i
n
r
 
(
6
,
 
[
.
r
e
f
 
a
u
s
e
r
,
 
.
i
n
t
 
t
_
2
5
.
2
.
2
.
1
.
1
]
)
)
,
 
(
a
u
s
e
r
,
 
.
i
n
l
 
(
E
.
2
.
1
,
 
1
2
7
,
 
.
i
n
l
 
t
_
2
5
.
2
.
2
.
1
.
2
)
)
,
 
(
h
o
w
n
e
r
,
 
.
i
n
r
 
(
6
,
 
[
.
r
e
f
 
a
o
w
n
e
r
,
 
.
i
n
t
 
t
_
2
5
.
2
.
2
.
2
.
1
]
)
)
,
 
(
a
o
w
n
e
r
,
 
.
i
n
l
 
(
E
.
2
.
1
,
 
1
2
7
,
 
.
i
n
l
 
t
_
2
5
.
2
.
2
.
2
.
2
)
)
]
 
H
_
3
3
 
:
=
 
h
P
_
3
3


 
 
 
 
r
e
p
l
a
c
e
 
h
D
_
3
3
 
:
 
v
a
_
D
 
A
 
[
(
a
o
u
t
,
 
.
i
n
l
 
(
c
L
,
 
1
,
 
.
i
n
r
 
(
.
i
n
l
 
(
v
p
_
u
p
d
L
 
g
g
 
(
0
 
:
 
I
n
t
3
2
)
.
t
o
N
a
t
C
l
a
m
p
N
e
g
 
(
t
_
2
5
.
2
.
1
.
t
o
I
n
t
6
4
)
)
)
)
)
,
 
(
h
,
 
.
i
n
r
 
(
1
1
,
 
[
.
r
e
f
 
h
l
k
,
 
.
r
e
f
 
h
v
,
 
.
r
e
f
 
h
t
,
 
.
r
e
f
 
h
c
o
l
,
 
.
r
e
f
 
h
a
n
s
,
 
.
i
n
t
 
c
f
o
r
,
 
.
i
n
t
 
c
b
a
c
k
,
 
.
i
n
t
 
f
i
l
t
]
)
)
,
 
(
h
v
,
 
.
i
n
r
 
(
1
0
,
 
[
.
i
n
t
 
(
n
I
 
r
v
)
,
 
.
r
e
f
 
h
u
s
e
r
,
 
.
r
e
f
 
h
o
w
n
e
r
,
 
.
r
e
f
 
h
t
r
i
e
d
,
 
.
r
e
f
 
h
i
d
e
n
t
,
 
.
r
e
f
 
h
t
a
p
e
,
 
.
i
n
t
 
g
i
v
e
n
,
 
.
r
e
f
 
h
s
e
c
r
e
t
,
 
.
r
e
f
 
q
e
n
t
,
 
.
r
e
f
 
h
n
o
e
,
 
.
i
n
t
 
p
e
r
m
,
 
.
i
n
t
 
p
l
a
i
n
]
)
)
,
 
(
h
u
s
e
r
,
 
.
i
n
r
 
(
6
,
 
[
.
r
e
f
 
a
u
s
e
r
,
 
.
i
n
t
 
t
_
2
5
.
2
.
2
.
1
.
1
]
)
)
,
 
(
a
u
s
e
r
,
 
.
i
n
l
 
(
E
.
2
.
1
,
 
1
2
7
,
 
.
i
n
l
 
t
_
2
5
.
2
.
2
.
1
.
2
)
)
,
 
(
h
o
w
n
e
r
,
 
.
i
n
r
 
(
6
,
 
[
.
r
e
f
 
a
o
w
n
e
r
,
 
.
i
n
t
 
t
_
2
5
.
2
.
2
.
2
.
1
]
)
)
,
 
(
a
o
w
n
e
r
,
 
.
i
n
l
 
(
E
.
2
.
1
,
 
1
2
7
,
 
.
i
n
l
 
t
_
2
5
.
2
.
2
.
2
.
2
)
)
]
 
:
=
 
h
D
_
3
3


 
 
 
 
c
l
e
a
r
 
h
P
_
2
4
 
h
D
_
2
4
 
h
S
_
2
4


 
 
 
 
r
e
f
i
n
e
 
l
v
_
g
o
t
o
 
(
t
g
t
 
:
=
 
1
7
)
 
h
x
 
h
b
 
d
L
_
w
o
r
d
_
1
0
 
(
b
y
 
d
e
c
i
d
e
)
 
?
_


 
 
 
 
r
e
f
i
n
e
 
l
v
_
i
c
o
n
s
t
 
(
v
 
:
=
 
0
)
 
h
x
 
h
b
 
d
L
_
w
o
r
d
_
1
7
 
(
b
y
 
d
e
c
i
d
e
)
 
?
_


 
 
 
 
r
e
f
i
n
e
 
v
x
_
r
e
t
 
?
_


 
 
 
 
h
a
v
e
 
h
p
o
s
t
 
:
 
(
(
0
,
 
(
t
_
2
5
.
2
.
2
.
1
,
 
t
_
2
5
.
2
.
2
.
2
,
 
(
v
p
_
u
p
d
L
 
g
g
 
(
0
 
:
 
I
n
t
3
2
)
.
t
o
N
a
t
C
l
a
m
p
N
e
g
 
(
t
_
2
5
.
2
.
1
.
t
o
I
n
t
6
4
)
)
)
)
 
:
 
I
n
t
3
2
 
×
 
(
g
R
o
w
 
×
 
g
R
o
w
 
×
 
(
N
a
t
 
→
 
I
n
t
6
4
)
)
)
 
=
 
F
_
L
_
w
o
r
d
_
e
 
X
u
s
e
r
 
X
o
w
n
e
r
 
g
g
 
v
c
 
o
w
n
 
:
=
 
(
s
h
o
w
 
F
_
L
_
w
o
r
d
_
e
 
X
u
s
e
r
 
X
o
w
n
e
r
 
g
g
 
v
c
 
o
w
n
 
=
 
(
(
0
,
 
(
t
_
2
5
.
2
.
2
.
1
,
 
t
_
2
5
.
2
.
2
.
2
,
 
(
v
p
_
u
p
d
L
 
g
g
 
(
0
 
:
 
I
n
t
3
2
)
.
t
o
N
a
t
C
l
a
m
p
N
e
g
 
(
t
_
2
5
.
2
.
1
.
t
o
I
n
t
6
4
)
)
)
)
 
:
 
I
n
t
3
2
 
×
 
(
g
R
o
w
 
×
 
g
R
o
w
 
×
 
(
N
a
t
 
→
 
I
n
t
6
4
)
)
)
 
f
r
o
m
 
(
g
L
e
t
_
e
q
 
h
t
_
2
5
 
(
(
i
f
_
p
o
s
 
c
_
3
1
)
.
t
r
a
n
s
 
r
f
l
)
)
)
.
s
y
m
m


 
 
 
 
h
a
v
e
 
h
P
9
 
:
=
 
h
P
_
3
3
.
s
u
b
 
(
w
s
'
 
:
=
 
[
(
h
,
 
.
i
n
r
 
(
1
1
,
 
[
.
r
e
f
 
h
l
k
,
 
.
r
e
f
 
h
v
,
 
.
r
e
f
 
h
t
,
 
.
r
e
f
 
h
c
o
l
,
 
.
r
e
f
 
h
a
n
s
,
 
.
i
n
t
 
c
f
o
r
,
 
.
i
n
t
 
c
b
a
c
k
,
 
.
i
n
t
 
f
i
l
t
]
)
)
,
 
(
h
v
,
 
.
i
n
r
 
(
1
0
,
 
[
.
i
n
t
 
(
n
I
 
r
v
)
,
 
.
r
e
f
 
h
u
s
e
r
,
 
.
r
e
f
 
h
o
w
n
e
r
,
 
.
r
e
f
 
h
t
r
i
e
d
,
 
.
r
e
f
 
h
i
d
e
n
t
,
 
.
r
e
f
 
h
t
a
p
e
,
 
.
i
n
t
 
g
i
v
e
n
,
 
.
r
e
f
 
h
s
e
c
r
e
t
,
 
.
r
e
f
 
q
e
n
t
,
 
.
r
e
f
 
h
n
o
e
,
 
.
i
n
t
 
p
e
r
m
,
 
.
i
n
t
 
p
l
a
i
n
]
)
)
,
 
(
h
u
s
e
r
,
 
.
i
n
r
 
(
6
,
 
[
.
r
e
f
 
a
u
s
e
r
,
 
.
i
n
t
 
t
_
2
5
.
2
.
2
.
1
.
1
]
)
)
,
 
(
a
u
s
e
r
,
 
.
i
n
l
 
(
E
.
2
.
1
,
 
1
2
7
,
 
.
i
n
l
 
t
_
2
5
.
2
.
2
.
1
.
2
)
)
,
 
(
h
o
w
n
e
r
,
 
.
i
n
r
 
(
6
,
 
[
.
r
e
f
 
a
o
w
n
e
r
,
 
.
i
n
t
 
t
_
2
5
.
2
.
2
.
2
.
1
]
)
)
,
 
(
a
o
w
n
e
r
,
 
.
i
n
l
 
(
E
.
2
.
1
,
 
1
2
7
,
 
.
i
n
l
 
t
_
2
5
.
2
.
2
.
2
.
2
)
)
,
 
(
a
o
u
t
,
 
.
i
n
l
 
(
c
L
,
 
1
,
 
.
i
n
r
 
(
.
i
n
l
 
(
v
p
_
u
p
d
L
 
g
g
 
(
0
 
:
 
I
n
t
3
2
)
.
t
o
N
a
t
C
l
a
m
p
N
e
g
 
(
t
_
2
5
.
2
.
1
.
t
o
I
n
t
6
4
)
)
)
)
)
]
)
 
[
1
,
 
2
,
 
3
,
 
4
,
 
5
,
 
6
,
 
0
]
 
r
f
l


 
 
 
 
h
a
v
e
 
h
D
9
 
:
=
 
h
D
_
3
3
.
s
u
b
 
(
w
s
'
 
:
=
 
[
(
h
,
 
.
i
n
r
 
(
1
1
,
 
[
.
r
e
f
 
h
l
k
,
 
.
r
e
f
 
h
v
,
 
.
r
e
f
 
h
t
,
 
.
r
e
f
 
h
c
o
l
,
 
.
r
e
f
 
h
a
n
s
,
 
.
i
n
t
 
c
f
o
r
,
 
.
i
n
t
 
c
b
a
c
k
,
 
.
i
n
t
 
f
i
l
t
]
)
)
,
 
(
h
v
,
 
.
i
n
r
 
(
1
0
,
 
[
.
i
n
t
 
(
n
I
 
r
v
)
,
 
.
r
e
f
 
h
u
s
e
r
,
 
.
r
e
f
 
h
o
w
n
e
r
,
 
.
r
e
f
 
h
t
r
i
e
d
,
 
.
r
e
f
 
h
i
d
e
n
t
,
 
.
r
e
f
 
h
t
a
p
e
,
 
.
i
n
t
 
g
i
v
e
n
,
 
.
r
e
f
 
h
s
e
c
r
e
t
,
 
.
r
e
f
 
q
e
n
t
,
 
.
r
e
f
 
h
n
o
e
,
 
.
i
n
t
 
p
e
r
m
,
 
.
i
n
t
 
p
l
a
i
n
]
)
)
,
 
(
h
u
s
e
r
,
 
.
i
n
r
 
(
6
,
 
[
.
r
e
f
 
a
u
s
e
r
,
 
.
i
n
t
 
t
_
2
5
.
2
.
2
.
1
.
1
]
)
)
,
 
(
a
u
s
e
r
,
 
.
i
n
l
 
(
E
.
2
.
1
,
 
1
2
7
,
 
.
i
n
l
 
t
_
2
5
.
2
.
2
.
1
.
2
)
)
,
 
(
h
o
w
n
e
r
,
 
.
i
n
r
 
(
6
,
 
[
.
r
e
f
 
a
o
w
n
e
r
,
 
.
i
n
t
 
t
_
2
5
.
2
.
2
.
2
.
1
]
)
)
,
 
(
a
o
w
n
e
r
,
 
.
i
n
l
 
(
E
.
2
.
1
,
 
1
2
7
,
 
.
i
n
l
 
t
_
2
5
.
2
.
2
.
2
.
2
)
)
,
 
(
a
o
u
t
,
 
.
i
n
l
 
(
c
L
,
 
1
,
 
.
i
n
r
 
(
.
i
n
l
 
(
v
p
_
u
p
d
L
 
g
g
 
(
0
 
:
 
I
n
t
3
2
)
.
t
o
N
a
t
C
l
a
m
p
N
e
g
 
(
t
_
2
5
.
2
.
1
.
t
o
I
n
t
6
4
)
)
)
)
)
]
)
 
[
1
,
 
2
,
 
3
,
 
4
,
 
5
,
 
6
,
 
0
]
 
(
b
y
 
d
e
c
i
d
e
)
 
r
f
l


 
 
 
 
e
x
a
c
t
 
W
.
i
r
e
t
 
(
v
 
:
=
 
0
)
 
h
x
 
h
b
 
h
r
 
(
f
u
n
 
t
 
h
t
 
h
W
 
=
>
 
⟨
⟨
0
,
 
(
t
_
2
5
.
2
.
2
.
1
,
 
t
_
2
5
.
2
.
2
.
2
,
 
(
v
p
_
u
p
d
L
 
g
g
 
(
0
 
:
 
I
n
t
3
2
)
.
t
o
N
a
t
C
l
a
m
p
N
e
g
 
(
t
_
2
5
.
2
.
1
.
t
o
I
n
t
6
4
)
)
)
,
 
r
f
l
,
 
⟨
c
o
n
g
r
A
r
g
 
P
r
o
d
.
f
s
t
 
h
p
o
s
t
,
 
c
o
n
g
r
A
r
g
 
P
r
o
d
.
s
n
d
 
h
p
o
s
t
⟩
,
 
b
y
 
r
w
 
[
h
t
]
;
 
e
x
a
c
t
 
h
P
9
,
 
h
D
9
⟩
,
 
h
S
_
3
3
.
F
 
h
t
⟩
)
 
h
S
_
3
3
.
2
.
2
 
d
L
_
w
o
r
d
_
1
8


s
e
t
_
o
p
t
i
o
n
 
m
a
x
H
e
a
r
t
b
e
a
t
s
 
4
0
0
0
0
0
0
 
i
n


s
e
t
_
o
p
t
i
o
n
 
m
a
x
R
e
c
D
e
p
t
h
 
1
0
0
0
0
0
 
i
n


t
h
e
o
r
e
m
 
k
_
L
_
i
d
_
e
 
(
E
 
:
 
g
E
)
 
(
s
a
 
:
 
N
a
t
 
→
 
N
a
t
)
 
(
c
L
 
:
 
C
l
a
s
s
I
d
)
 
(
l
 
:
 
L
a
u
n
c
h
)
 
(
h
s
t
 
:
 
l
.
s
t
a
c
k
T
r
a
c
e
s
 
=
 
f
a
l
s
e
)
 
(
h
 
h
l
k
 
h
v
 
h
t
 
h
c
o
l
 
h
a
n
s
 
h
u
s
e
r
 
h
o
w
n
e
r
 
h
t
r
i
e
d
 
h
i
d
e
n
t
 
h
t
a
p
e
 
h
s
e
c
r
e
t
 
q
e
n
t
 
h
n
o
e
 
a
i
d
e
n
t
 
:
 
N
a
t
)
 
(
r
v
 
:
 
N
a
t
)
 
(
c
f
o
r
 
:
 
I
n
t
3
2
)
 
(
c
b
a
c
k
 
:
 
I
n
t
3
2
)
 
(
f
i
l
t
 
:
 
I
n
t
3
2
)
 
(
g
i
v
e
n
 
:
 
I
n
t
3
2
)
 
(
p
e
r
m
 
:
 
I
n
t
3
2
)
 
(
p
l
a
i
n
 
:
 
I
n
t
3
2
)
 
(
X
i
d
e
n
t
 
:
 
g
R
o
w
)
 
(
v
b
 
:
 
I
n
t
3
2
)
 
:
 
g
H
i
 
E
 
s
a
 
c
L
 
l
 
y
L
_
i
d
 
w
s
L
_
i
d
 
(
{
 
f
r
a
m
e
s
 
:
=
 
7
,
 
c
e
l
l
s
 
:
=
 
1
,
 
s
l
o
t
s
 
:
=
 
6
,
 
l
o
c
a
l
s
 
:
=
 
1
0
3
 
}
)
 
1
 
6
 
[
.
r
e
f
 
h
,
 
.
i
n
t
 
v
b
]
 
[
(
h
,
 
.
i
n
r
 
(
1
1
,
 
[
.
r
e
f
 
h
l
k
,
 
.
r
e
f
 
h
v
,
 
.
r
e
f
 
h
t
,
 
.
r
e
f
 
h
c
o
l
,
 
.
r
e
f
 
h
a
n
s
,
 
.
i
n
t
 
c
f
o
r
,
 
.
i
n
t
 
c
b
a
c
k
,
 
.
i
n
t
 
f
i
l
t
]
)
)
,
 
(
h
v
,
 
.
i
n
r
 
(
1
0
,
 
[
.
i
n
t
 
(
n
I
 
r
v
)
,
 
.
r
e
f
 
h
u
s
e
r
,
 
.
r
e
f
 
h
o
w
n
e
r
,
 
.
r
e
f
 
h
t
r
i
e
d
,
 
.
r
e
f
 
h
i
d
e
n
t
,
 
.
r
e
f
 
h
t
a
p
e
,
 
.
i
n
t
 
g
i
v
e
n
,
 
.
r
e
f
 
h
s
e
c
r
e
t
,
 
.
r
e
f
 
q
e
n
t
,
 
.
r
e
f
 
h
n
o
e
,
 
.
i
n
t
 
p
e
r
m
,
 
.
i
n
t
 
p
l
a
i
n
]
)
)
,
 
(
h
i
d
e
n
t
,
 
.
i
n
r
 
(
6
,
 
[
.
r
e
f
 
a
i
d
e
n
t
,
 
.
i
n
t
 
X
i
d
e
n
t
.
1
]
)
)
,
 
(
a
i
d
e
n
t
,
 
.
i
n
l
 
(
E
.
2
.
1
,
 
3
2
,
 
.
i
n
l
 
X
i
d
e
n
t
.
2
)
)
]
 
(
f
u
n
 
(
r
r
 
:
 
I
n
t
3
2
)
 
(
u
u
 
:
 
g
R
o
w
)
 
=
>
 
r
r
 
=
 
(
F
_
L
_
i
d
_
e
 
X
i
d
e
n
t
 
v
b
)
.
1
 
∧
 
u
u
 
=
 
(
F
_
L
_
i
d
_
e
 
X
i
d
e
n
t
 
v
b
)
.
2
)
 
(
f
u
n
 
(
u
u
 
:
 
g
R
o
w
)
 
=
>
 
[
(
h
,
 
.
i
n
r
 
(
1
1
,
 
[
.
r
e
f
 
h
l
k
,
 
.
r
e
f
 
h
v
,
 
.
r
e
f
 
h
t
,
 
.
r
e
f
 
h
c
o
l
,
 
.
r
e
f
 
h
a
n
s
,
 
.
i
n
t
 
c
f
o
r
,
 
.
i
n
t
 
c
b
a
c
k
,
 
.
i
n
t
 
f
i
l
t
]
)
)
,
 
(
h
v
,
 
.
i
n
r
 
(
1
0
,
 
[
.
i
n
t
 
(
n
I
 
r
v
)
,
 
.
r
e
f
 
h
u
s
e
r
,
 
.
r
e
f
 
h
o
w
n
e
r
,
 
.
r
e
f
 
h
t
r
i
e
d
,
 
.
r
e
f
 
h
i
d
e
n
t
,
 
.
r
e
f
 
h
t
a
p
e
,
 
.
i
n
t
 
g
i
v
e
n
,
 
.
r
e
f
 
h
s
e
c
r
e
t
,
 
.
r
e
f
 
q
e
n
t
,
 
.
r
e
f
 
h
n
o
e
,
 
.
i
n
t
 
p
e
r
m
,
 
.
i
n
t
 
p
l
a
i
n
]
)
)
,
 
(
h
i
d
e
n
t
,
 
.
i
n
r
 
(
6
,
 
[
.
r
e
f
 
a
i
d
e
n
t
,
 
.
i
n
t
 
u
u
.
1
]
)
)
,
 
(
a
i
d
e
n
t
,
 
.
i
n
l
 
(
E
.
2
.
1
,
 
3
2
,
 
.
i
n
l
 
u
u
.
2
)
)
]
)
 
:
=
 
b
y


 
 
i
n
t
r
o
 
s
z


 
 
r
e
f
i
n
e
 
v
x
_
o
f
W
H
 
(
h
h
 
:
=
 
[
(
0
,
 
5
,
 
8
,
 
1
3
)
]
)
 
(
c
c
 
:
=
 
c
L
_
i
d
)
 
(
m
a
x
L
 
:
=
 
3
)
 
(
r
e
t
 
:
=
 
(
s
o
m
e
 
.
i
n
t
)
)
 
(
b
y
 
d
e
c
i
d
e
)
 
r
f
l
 
?
_


 
 
i
n
t
r
o
 
p
 
e
 
s
 
m
 
a
r
g
s
 
b
e
l
o
w
 
m
e
t
h
 
c
 
s
₁
 
B
 
h
m
l
 
h
v


 
 
o
b
t
a
i
n
 
⟨
r
f
l
,
 
h
s
z
,
 
h
P
,
 
⟨
h
V
,
 
h
X
,
 
h
L
⟩
,
 
h
D
0
⟩
 
:
=
 
h
v


 
 
h
a
v
e
 
h
x
 
:
=
 
B
.
e
x
e
c


 
 
h
a
v
e
 
h
b
 
:
=
 
B
.
b
y
t
e
s


 
 
h
a
v
e
 
h
r
 
:
=
 
B
.
r
e
t
u
r
n
s


 
 
h
a
v
e
 
h
t
s
 
:
=
 
a
t
o
m
s
_
s
p
e
c
 
(
w
s
 
:
=
 
w
s
L
_
i
d
)
 
B
.
p
r
e


 
 
h
a
v
e
 
h
o
w
n
 
:
 
s
.
v
m
.
f
i
n
d
C
l
a
s
s
 
R
L
 
=
 
s
o
m
e
 
m
.
c
l
s
 
:
=
 
f
i
n
d
C
l
a
s
s
_
o
f
_
m
e
t
h
o
d
N
a
m
e
d
 
B
.
n
a
m
e
d


 
 
h
a
v
e
 
h
l
o
c
k
s
 
:
=
 
B
.
n
o
t
S
y
n
c
h
r
o
n
i
z
e
d


 
 
h
a
v
e
 
h
t
a
b
 
:
=
 
v
x
_
t
a
b
l
e
 
B
 
(
h
t
s
 
(
.
c
o
d
e
W
i
t
h
 
y
L
_
i
d
 
c
L
_
i
d
 
3
 
(
s
o
m
e
 
.
i
n
t
)
 
[
(
0
,
 
5
,
 
8
,
 
1
3
)
]
)
 
(
b
y
 
d
e
c
i
d
e
 
+
k
e
r
n
e
l
)
)


 
 
s
u
b
s
t
 
h
s
z


 
 
h
a
v
e
 
h
D
 
:
=
 
h
D
0
.
s
e
l
f
 
(
s
z
 
:
=
 
s
.
h
e
a
p
.
s
i
z
e
)


 
 
c
l
e
a
r
 
h
D
0


 
 
g
e
n
e
r
a
l
i
z
e
 
h
A
e
 
:
 
v
a
_
A
 
[
(
h
,
 
.
i
n
r
 
(
1
1
,
 
[
.
r
e
f
 
h
l
k
,
 
.
r
e
f
 
h
v
,
 
.
r
e
f
 
h
t
,
 
.
r
e
f
 
h
c
o
l
,
 
.
r
e
f
 
h
a
n
s
,
 
.
i
n
t
 
c
f
o
r
,
 
.
i
n
t
 
c
b
a
c
k
,
 
.
i
n
t
 
f
i
l
t
]
)
)
,
 
(
h
v
,
 
.
i
n
r
 
(
1
0
,
 
[
.
i
n
t
 
(
n
I
 
r
v
)
,
 
.
r
e
f
 
h
u
s
e
r
,
 
.
r
e
f
 
h
o
w
n
e
r
,
 
.
r
e
f
 
h
t
r
i
e
d
,
 
.
r
e
f
 
h
i
d
e
n
t
,
 
.
r
e
f
 
h
t
a
p
e
,
 
.
i
n
t
 
g
i
v
e
n
,
 
.
r
e
f
 
h
s
e
c
r
e
t
,
 
.
r
e
f
 
q
e
n
t
,
 
.
r
e
f
 
h
n
o
e
,
 
.
i
n
t
 
p
e
r
m
,
 
.
i
n
t
 
p
l
a
i
n
]
)
)
,
 
(
h
i
d
e
n
t
,
 
.
i
n
r
 
(
6
,
 
[
.
r
e
f
 
a
i
d
e
n
t
,
 
.
i
n
t
 
X
i
d
e
n
t
.
1
]
)
)
,
 
(
a
i
d
e
n
t
,
 
.
i
n
l
 
(
E
.
2
.
1
,
 
3
2
,
 
.
i
n
l
 
X
i
d
e
n
t
.
2
)
)
]
 
s
.
h
e
a
p
.
s
i
z
e
 
=
 
A
 
a
t
 
h
D
 
h
V
 
h
X
 
⊢


 
 
h
a
v
e
 
h
A
 
:
 
∀
 
q
 
:
 
N
a
t
,
 
s
.
h
e
a
p
.
s
i
z
e
 
≤
 
q
 
→
 
A
 
q
 
:
=
 
f
u
n
 
q
 
h
 
=
>
 
b
y
 
r
w
 
[
←
 
h
A
e
]
;
 
e
x
a
c
t
 
O
r
.
i
n
r
 
h


 
 
h
a
v
e
 
h
S
 
:
 
v
a
_
S
 
A
 
s
.
h
e
a
p
 
s
.
h
e
a
p
 
[
]
 
:
=
 
v
a
_
S
.
r
f


 
 
h
a
v
e
 
h
K
 
:
=
 
h
V
.
1


 
 
h
a
v
e
 
h
F
 
:
 
C
a
l
l
F
i
x
 
p
 
m
 
c
 
c
L
_
i
d
 
3
 
s
 
_
 
w
s
L
_
i
d
 
R
L
 
:
=
 
⟨
h
x
,
 
h
b
,
 
h
m
l
,
 
h
o
w
n
,
 
h
t
s
⟩


 
 
h
a
v
e
 
h
l
 
:
=
 
l
v
_
e
n
t
r
y
 
[
.
r
e
f
 
h
,
 
.
i
n
t
 
v
b
]
 
(
n
 
:
=
 
3
)
 
(
N
a
t
.
l
e
_
o
f
_
b
l
e
_
e
q
_
t
r
u
e
 
r
f
l
)


 
 
r
w
 
[
l
g
_
e
n
t
r
y
_
e
q
]


 
 
g
e
n
e
r
a
l
i
z
e
 
(
l
g
_
s
l
 
[
.
r
e
f
 
h
,
 
.
i
n
t
 
v
b
]
 
+
+
 
L
i
s
t
.
r
e
p
l
i
c
a
t
e
 
(
3
 
-
 
(
l
g
_
s
l
 
[
.
r
e
f
 
h
,
 
.
i
n
t
 
v
b
]
)
.
l
e
n
g
t
h
)
 
S
l
o
t
.
u
n
s
e
t
)
.
t
o
A
r
r
a
y
 
=
 
l
s
 
a
t
 
h
l
 
⊢


 
 
h
a
v
e
 
h
l
 
:
 
l
v
_
h
a
s
 
l
s
 
3
 
[
(
0
,
 
.
r
e
f
 
h
)
,
 
(
1
,
 
.
i
n
t
 
v
b
)
]
 
:
=
 
h
l


 
 
h
a
v
e
 
w
_
0
 
:
=
 
h
t
s
 
(
.
c
l
a
s
s
L
i
n
k
 
R
L
 
1
3
 
"
j
a
v
a
/
l
a
n
g
/
U
n
s
u
p
p
o
r
t
e
d
O
p
e
r
a
t
i
o
n
E
x
c
e
p
t
i
o
n
"
)
 
(
b
y
 
d
e
c
i
d
e
 
+
k
e
r
n
e
l
)


 
 
r
e
f
i
n
e
 
l
v
_
a
l
o
a
d
_
n
 
h
x
 
h
b
 
d
L
_
i
d
_
0
 
r
f
l
 
(
l
v
_
a
t
 
h
l
 
0
 
r
f
l
)
 
?
_


 
 
r
e
f
i
n
e
 
l
v
_
i
l
o
a
d
_
n
 
h
x
 
h
b
 
d
L
_
i
d
_
1
 
r
f
l
 
(
l
v
_
a
t
 
h
l
 
1
 
r
f
l
)
 
?
_


 
 
o
b
t
a
i
n
 
⟨
t
_
2
3
,
 
h
t
_
2
3
⟩
 
:
 
∃
 
t
9
 
:
 
N
a
t
 
×
 
g
R
o
w
,
 
t
9
 
=
 
F
_
X
1
0
_
i
d
_
e
 
X
i
d
e
n
t
 
v
b
 
:
=
 
⟨
_
,
 
r
f
l
⟩


 
 
r
e
f
i
n
e
 
g
T
V
v
 
h
F
 
h
l
 
h
V
 
h
X
 
h
P
 
h
D
 
h
S
 
h
A
 
[
0
,
 
1
,
 
2
,
 
3
]
 
[
]
 
(
w
c
 
:
=
 
[
(
h
,
 
.
i
n
r
 
(
1
1
,
 
[
.
r
e
f
 
h
l
k
,
 
.
r
e
f
 
h
v
,
 
.
r
e
f
 
h
t
,
 
.
r
e
f
 
h
c
o
l
,
 
.
r
e
f
 
h
a
n
s
,
 
.
i
n
t
 
c
f
o
r
,
 
.
i
n
t
 
c
b
a
c
k
,
 
.
i
n
t
 
f
i
l
t
]
)
)
,
 
(
h
v
,
 
.
i
n
r
 
(
1
0
,
 
[
.
i
n
t
 
(
n
I
 
r
v
)
,
 
.
r
e
f
 
h
u
s
e
r
,
 
.
r
e
f
 
h
o
w
n
e
r
,
 
.
r
e
f
 
h
t
r
i
e
d
,
 
.
r
e
f
 
h
i
d
e
n
t
,
 
.
r
e
f
 
h
t
a
p
e
,
 
.
i
n
t
 
g
i
v
e
n
,
 
.
r
e
f
 
h
s
e
c
r
e
t
,
 
.
r
e
f
 
q
e
n
t
,
 
.
r
e
f
 
h
n
o
e
,
 
.
i
n
t
 
p
e
r
m
,
 
.
i
n
t
 
p
l
a
i
n
]
)
)
,
 
(
h
i
d
e
n
t
,
 
.
i
n
r
 
(
6
,
 
[
.
r
e
f
 
a
i
d
e
n
t
,
 
.
i
n
t
 
X
i
d
e
n
t
.
1
]
)
)
,
 
(
a
i
d
e
n
t
,
 
.
i
n
l
 
(
E
.
2
.
1
,
 
3
2
,
 
.
i
n
l
 
X
i
d
e
n
t
.
2
)
)
]
)
 
(
w
r
 
:
=
 
[
]
)
 
r
f
l
 
r
f
l
 
r
f
l
 
(
b
y
 
d
e
c
i
d
e
)
 
0
 
1
1
 
r
f
l
 
r
f
l
 
r
f
l
 
(
k
_
X
1
0
_
i
d
_
e
 
E
 
s
a
 
l
 
h
s
t
 
h
 
h
l
k
 
h
v
 
h
t
 
h
c
o
l
 
h
a
n
s
 
h
u
s
e
r
 
h
o
w
n
e
r
 
h
t
r
i
e
d
 
h
i
d
e
n
t
 
h
t
a
p
e
 
h
s
e
c
r
e
t
 
q
e
n
t
 
h
n
o
e
 
a
i
d
e
n
t
 
r
v
 
c
f
o
r
 
c
b
a
c
k
 
f
i
l
t
 
g
i
v
e
n
 
p
e
r
m
 
p
l
a
i
n
 
X
i
d
e
n
t
 
v
b
)
 
(
c
w
V
 
1
 
h
t
s
 
g
L
_
i
d
_
X
1
0
_
i
d
 
r
f
l
 
r
f
l
 
r
f
l
 
(
b
y
 
d
e
c
i
d
e
 
+
k
e
r
n
e
l
)
 
⟨
N
a
t
.
l
e
_
o
f
_
b
l
e
_
e
q
_
t
r
u
e
 
r
f
l
,
 
N
a
t
.
l
e
_
o
f
_
b
l
e
_
e
q
_
t
r
u
e
 
r
f
l
⟩
)
 
r
f
l
 
r
f
l
 
r
f
l
 
(
N
a
t
.
l
e
_
o
f
_
b
l
e
_
e
q
_
t
r
u
e
 
r
f
l
)
 
d
L
_
i
d
_
2
 
⟨
N
a
t
.
l
e
_
o
f
_
b
l
e
_
e
q
_
t
r
u
e
 
r
f
l
,
 
N
a
t
.
l
e
_
o
f
_
b
l
e
_
e
q
_
t
r
u
e
 
r
f
l
⟩
 
(
f
u
n
 
n
m
_
2
4
 
c
e
_
2
4
 
q
_
2
4
 
H
_
2
5
 
l
o
c
s
_
2
5
 
p
x
_
2
4
 
h
P
_
2
5
 
h
D
_
2
5
 
h
S
_
2
5
 
h
c
e
_
2
4
 
h
c
v
_
2
4
 
h
c
l
_
2
4
 
=
>
 
?
_
)
 
(
f
u
n
 
u
_
2
1
 
H
_
2
2
 
l
o
c
s
_
2
2
 
h
u
_
2
1
 
h
P
_
2
2
 
h
D
_
2
2
 
h
S
_
2
2
 
=
>
 
?
_
)


 
 
·
 
r
e
p
l
a
c
e
 
h
P
_
2
5
 
:
 
v
a
_
P
 
E
.
1
 
v
w
C
l
 
[
(
h
,
 
.
i
n
r
 
(
1
1
,
 
[
.
r
e
f
 
h
l
k
,
 
.
r
e
f
 
h
v
,
 
.
r
e
f
 
h
t
,
 
.
r
e
f
 
h
c
o
l
,
 
.
r
e
f
 
h
a
n
s
,
 
.
i
n
t
 
c
f
o
r
,
 
.
i
n
t
 
c
b
a
c
k
,
 
.
i
n
t
 
f
i
l
t
]
)
)
,
 
(
h
v
,
 
.
i
n
r
 
(
1
0
,
 
[
.
i
n
t
 
(
n
I
 
r
v
)
,
 
.
r
e
f
 
h
u
s
e
r
,
 
.
r
e
f
 
h
o
w
n
e
r
,
 
.
r
e
f
 
h
t
r
i
e
d
,
 
.
r
e
f
 
h
i
d
e
n
t
,
 
.
r
e
f
 
h
t
a
p
e
,
 
.
i
n
t
 
g
i
v
e
n
,
 
.
r
e
f
 
h
s
e
c
r
e
t
,
 
.
r
e
f
 
q
e
n
t
,
 
.
r
e
f
 
h
n
o
e
,
 
.
i
n
t
 
p
e
r
m
,
 
.
i
n
t
 
p
l
a
i
n
]
)
)
,
 
(
h
i
d
e
n
t
,
 
.
i
n
r
 
(
6
,
 
[
.
r
e
f
 
a
i
d
e
n
t
,
 
.
i
n
t
 
X
i
d
e
n
t
.
1
]
)
)
,
 
(
a
i
d
e
n
t
,
 
.
i
n
l
 
(
E
.
2
.
1
,
 
3
2
,
 
.
i
n
l
 
X
i
d
e
n
t
.
2
)
)
]
 
H
_
2
5
 
:
=
 
h
P
_
2
5


 
 
 
 
r
e
p
l
a
c
e
 
h
D
_
2
5
 
:
 
v
a
_
D
 
A
 
[
(
h
,
 
.
i
n
r
 
(
1
1
,
 
[
.
r
e
f
 
h
l
k
,
 
.
r
e
f
 
h
v
,
 
.
r
e
f
 
h
t
,
 
.
r
e
f
 
h
c
o
l
,
 
.
r
e
f
 
h
a
n
s
,
 
.
i
n
t
 
c
f
o
r
,
 
.
i
n
t
 
c
b
a
c
k
,
 
.
i
n
t
 
f
i
l
t
]
)
)
,
 
(
h
v
,
 
.
i
n
r
 
(
1
0
,
 
[
.
i
n
t
 
(
n
I
 
r
v
)
,
 
.
r
e
f
 
h
u
s
e
r
,
 
.
r
e
f
 
h
o
w
n
e
r
,
 
.
r
e
f
 
h
t
r
i
e
d
,
 
.
r
e
f
 
h
i
d
e
n
t
,
 
.
r
e
f
 
h
t
a
p
e
,
 
.
i
n
t
 
g
i
v
e
n
,
 
.
r
e
f
 
h
s
e
c
r
e
t
,
 
.
r
e
f
 
q
e
n
t
,
 
.
r
e
f
 
h
n
o
e
,
 
.
i
n
t
 
p
e
r
m
,
 
.
i
n
t
 
p
l
a
i
n
]
)
)
,
 
(
h
i
d
e
n
t
,
 
.
i
n
r
 
(
6
,
 
[
.
r
e
f
 
a
i
d
e
n
t
,
 
.
i
n
t
 
X
i
d
e
n
t
.
1
]
)
)
,
 
(
a
i
d
e
n
t
,
 
.
i
n
l
 
(
E
.
2
.
1
,
 
3
2
,
 
.
i
n
l
 
X
i
d
e
n
t
.
2
)
)
]
 
:
=
 
h
D
_
2
5


 
 
 
 
c
l
e
a
r
 
h
P
 
h
D
 
h
S


 
 
 
 
h
a
v
e
 
c
_
2
6
 
:
 
¬
 
t
_
2
3
.
1
 
=
 
0
 
:
=
 
b
y
 
r
w
 
[
h
t
_
2
3
]
;
 
e
x
a
c
t
 
p
x
_
2
4
.
2


 
 
 
 
h
a
v
e
 
c
_
2
7
 
:
 
t
_
2
3
.
1
 
=
 
5
 
:
=
 
b
y
 
h
a
v
e
 
q
9
 
:
=
 
L
c
_
X
1
0
_
i
d
_
e
 
_
 
_
;
 
r
w
 
[
←
 
h
t
_
2
3
]
 
a
t
 
q
9
;
 
o
m
e
g
a


 
 
 
 
o
b
t
a
i
n
 
r
f
l
 
:
 
n
m
_
2
4
 
=
 
"
j
a
v
a
/
l
a
n
g
/
U
n
s
u
p
p
o
r
t
e
d
O
p
e
r
a
t
i
o
n
E
x
c
e
p
t
i
o
n
"
 
:
=
 
p
x
_
2
4
.
1
.
t
r
a
n
s
 
(
b
y
 
r
w
 
[
←
 
h
t
_
2
3
,
 
c
_
2
7
]
;
 
r
f
l
)


 
 
 
 
r
e
f
i
n
e
 
v
x
_
c
a
t
c
h
 
h
o
w
n
 
[
]
 
⟨
0
,
 
5
,
 
8
,
 
1
3
⟩
 
[
]
 
(
b
y
 
r
w
 
[
h
t
a
b
]
;
 
r
f
l
)
 
(
f
u
n
 
z
 
h
9
 
=
>
 
a
b
s
u
r
d
 
h
9
 
L
i
s
t
.
n
o
t
_
m
e
m
_
n
i
l
)
 
(
b
y
 
d
e
c
i
d
e
)
 
(
b
y
 
d
e
c
i
d
e
)
 
w
_
0
 
(
v
a
_
N
w
.
u
s
e
 
r
f
l
 
(
h
X
.
2
.
1
 
(
.
c
a
s
t
a
b
l
e
 
"
j
a
v
a
/
l
a
n
g
/
U
n
s
u
p
p
o
r
t
e
d
O
p
e
r
a
t
i
o
n
E
x
c
e
p
t
i
o
n
"
 
"
j
a
v
a
/
l
a
n
g
/
U
n
s
u
p
p
o
r
t
e
d
O
p
e
r
a
t
i
o
n
E
x
c
e
p
t
i
o
n
"
)
 
(
b
y
 
d
e
c
i
d
e
 
+
k
e
r
n
e
l
)
)
)
 
h
c
e
_
2
4
 
h
c
v
_
2
4
 
h
c
l
_
2
4
 
?
_


 
 
 
 
r
e
f
i
n
e
 
l
v
_
a
s
t
o
r
e
_
n
 
(
l
v
'
 
:
=
 
[
(
2
,
 
.
r
e
f
 
q
_
2
4
)
,
 
(
0
,
 
.
r
e
f
 
h
)
,
 
(
1
,
 
.
i
n
t
 
v
b
)
]
)
 
h
x
 
h
b
 
d
L
_
i
d
_
8
 
r
f
l
 
h
l
 
(
b
y
 
d
e
c
i
d
e
)
 
r
f
l
 
(
f
u
n
 
l
s
_
2
8
 
h
l
_
2
8
 
=
>
 
?
_
)


 
 
 
 
c
l
e
a
r
 
h
l


 
 
 
 
r
e
f
i
n
e
 
l
v
_
i
c
o
n
s
t
 
(
v
 
:
=
 
1
)
 
h
x
 
h
b
 
d
L
_
i
d
_
9
 
(
b
y
 
d
e
c
i
d
e
)
 
?
_


 
 
 
 
r
e
f
i
n
e
 
v
x
_
r
e
t
 
?
_


 
 
 
 
h
a
v
e
 
h
p
o
s
t
 
:
 
(
(
1
,
 
X
i
d
e
n
t
)
 
:
 
I
n
t
3
2
 
×
 
(
g
R
o
w
)
)
 
=
 
F
_
L
_
i
d
_
e
 
X
i
d
e
n
t
 
v
b
 
:
=
 
(
s
h
o
w
 
F
_
L
_
i
d
_
e
 
X
i
d
e
n
t
 
v
b
 
=
 
(
(
1
,
 
X
i
d
e
n
t
)
 
:
 
I
n
t
3
2
 
×
 
(
g
R
o
w
)
)
 
f
r
o
m
 
(
g
L
e
t
_
e
q
 
h
t
_
2
3
 
(
(
i
f
_
n
e
g
 
c
_
2
6
)
.
t
r
a
n
s
 
r
f
l
)
)
)
.
s
y
m
m


 
 
 
 
h
a
v
e
 
h
P
9
 
:
=
 
h
P
_
2
5
.
s
u
b
 
(
w
s
'
 
:
=
 
[
(
h
,
 
.
i
n
r
 
(
1
1
,
 
[
.
r
e
f
 
h
l
k
,
 
.
r
e
f
 
h
v
,
 
.
r
e
f
 
h
t
,
 
.
r
e
f
 
h
c
o
l
,
 
.
r
e
f
 
h
a
n
s
,
 
.
i
n
t
 
c
f
o
r
,
 
.
i
n
t
 
c
b
a
c
k
,
 
.
i
n
t
 
f
i
l
t
]
)
)
,
 
(
h
v
,
 
.
i
n
r
 
(
1
0
,
 
[
.
i
n
t
 
(
n
I
 
r
v
)
,
 
.
r
e
f
 
h
u
s
e
r
,
 
.
r
e
f
 
h
o
w
n
e
r
,
 
.
r
e
f
 
h
t
r
i
e
d
,
 
.
r
e
f
 
h
i
d
e
n
t
,
 
.
r
e
f
 
h
t
a
p
e
,
 
.
i
n
t
 
g
i
v
e
n
,
 
.
r
e
f
 
h
s
e
c
r
e
t
,
 
.
r
e
f
 
q
e
n
t
,
 
.
r
e
f
 
h
n
o
e
,
 
.
i
n
t
 
p
e
r
m
,
 
.
i
n
t
 
p
l
a
i
n
]
)
)
,
 
(
h
i
d
e
n
t
,
 
.
i
n
r
 
(
6
,
 
[
.
r
e
f
 
a
i
d
e
n
t
,
 
.
i
n
t
 
X
i
d
e
n
t
.
1
]
)
)
,
 
(
a
i
d
e
n
t
,
 
.
i
n
l
 
(
E
.
2
.
1
,
 
3
2
,
 
.
i
n
l
 
X
i
d
e
n
t
.
2
)
)
]
)
 
[
0
,
 
1
,
 
2
,
 
3
]
 
r
f
l


 
 
 
 
h
a
v
e
 
h
D
9
 
:
=
 
h
D
_
2
5
.
s
u
b
 
(
w
s
'
 
:
=
 
[
(
h
,
 
.
i
n
r
 
(
1
1
,
 
[
.
r
e
f
 
h
l
k
,
 
.
r
e
f
 
h
v
,
 
.
r
e
f
 
h
t
,
 
.
r
e
f
 
h
c
o
l
,
 
.
r
e
f
 
h
a
n
s
,
 
.
i
n
t
 
c
f
o
r
,
 
.
i
n
t
 
c
b
a
c
k
,
 
.
i
n
t
 
f
i
l
t
]
)
)
,
 
(
h
v
,
 
.
i
n
r
 
(
1
0
,
 
[
.
i
n
t
 
(
n
I
 
r
v
)
,
 
.
r
e
f
 
h
u
s
e
r
,
 
.
r
e
f
 
h
o
w
n
e
r
,
 
.
r
e
f
 
h
t
r
i
e
d
,
 
.
r
e
f
 
h
i
d
e
n
t
,
 
.
r
e
f
 
h
t
a
p
e
,
 
.
i
n
t
 
g
i
v
e
n
,
 
.
r
e
f
 
h
s
e
c
r
e
t
,
 
.
r
e
f
 
q
e
n
t
,
 
.
r
e
f
 
h
n
o
e
,
 
.
i
n
t
 
p
e
r
m
,
 
.
i
n
t
 
p
l
a
i
n
]
)
)
,
 
(
h
i
d
e
n
t
,
 
.
i
n
r
 
(
6
,
 
[
.
r
e
f
 
a
i
d
e
n
t
,
 
.
i
n
t
 
X
i
d
e
n
t
.
1
]
)
)
,
 
(
a
i
d
e
n
t
,
 
.
i
n
l
 
(
E
.
2
.
1
,
 
3
2
,
 
.
i
n
l
 
X
i
d
e
n
t
.
2
)
)
]
)
 
[
0
,
 
1
,
 
2
,
 
3
]
 
(
b
y
 
d
e
c
i
d
e
)
 
r
f
l


 
 
 
 
e
x
a
c
t
 
W
.
i
r
e
t
 
(
v
 
:
=
 
1
)
 
h
x
 
h
b
 
h
r
 
(
f
u
n
 
t
 
h
t
 
h
W
 
=
>
 
⟨
⟨
1
,
 
X
i
d
e
n
t
,
 
r
f
l
,
 
⟨
c
o
n
g
r
A
r
g
 
P
r
o
d
.
f
s
t
 
h
p
o
s
t
,
 
c
o
n
g
r
A
r
g
 
P
r
o
d
.
s
n
d
 
h
p
o
s
t
⟩
,
 
b
y
 
r
w
 
[
h
t
]
;
 
e
x
a
c
t
 
h
P
9
,
 
h
D
9
⟩
,
 
h
S
_
2
5
.
F
 
h
t
⟩
)
 
h
S
_
2
5
.
2
.
2
 
d
L
_
i
d
_
1
0


 
 
·
 
h
a
v
e
 
e
_
3
0
 
:
 
t
_
2
3
 
=
 
(
(
0
,
 
u
_
2
1
)
 
:
 
N
a
t
 
×
 
g
R
o
w
)
 
:
=
 
h
t
_
2
3
.
t
r
a
n
s
 
h
u
_
2
1
.
s
y
m
m


 
 
 
 
h
a
v
e
 
c
_
2
9
 
:
 
t
_
2
3
.
1
 
=
 
0
 
:
=
 
b
y
 
r
w
 
[
e
_
3
0
]


 
 
 
 
o
b
t
a
i
n
 
r
f
l
 
:
 
u
_
2
1
 
=
 
t
_
2
3
.
2
 
:
=
 
(
c
o
n
g
r
A
r
g
 
(
f
u
n
 
z
 
:
 
N
a
t
 
×
 
g
R
o
w
 
=
>
 
z
.
2
)
 
e
_
3
0
)
.
s
y
m
m


 
 
 
 
r
e
p
l
a
c
e
 
h
P
_
2
2
 
:
 
v
a
_
P
 
E
.
1
 
v
w
C
l
 
[
(
h
,
 
.
i
n
r
 
(
1
1
,
 
[
.
r
e
f
 
h
l
k
,
 
.
r
e
f
 
h
v
,
 
.
r
e
f
 
h
t
,
 
.
r
e
f
 
h
c
o
l
,
 
.
r
e
f
 
h
a
n
s
,
 
.
i
n
t
 
c
f
o
r
,
 
.
i
n
t
 
c
b
a
c
k
,
 
.
i
n
t
 
f
i
l
t
]
)
)
,
 
(
h
v
,
 
.
i
n
r
 
(
1
0
,
 
[
.
i
n
t
 
(
n
I
 
r
v
)
,
 
.
r
e
f
 
h
u
s
e
r
,
 
.
r
e
f
 
h
o
w
n
e
r
,
 
.
r
e
f
 
h
t
r
i
e
d
,
 
.
r
e
f
 
h
i
d
e
n
t
,
 
.
r
e
f
 
h
t
a
p
e
,
 
.
i
n
t
 
g
i
v
e
n
,
 
.
r
e
f
 
h
s
e
c
r
e
t
,
 
.
r
e
f
 
q
e
n
t
,
 
.
r
e
f
 
h
n
o
e
,
 
.
i
n
t
 
p
e
r
m
,
 
.
i
n
t
 
p
l
a
i
n
]
)
)
,
 
(
h
i
d
e
n
t
,
 
.
i
n
r
 
(
6
,
 
[
.
r
e
f
 
a
i
d
e
n
t
,
 
.
i
n
t
 
t
_
2
3
.
2
.
1
]
)
)
,
 
(
a
i
d
e
n
t
,
 
.
i
n
l
 
(
E
.
2
.
1
,
 
3
2
,
 
.
i
n
l
 
t
_
2
3
.
2
.
2
)
)
]
 
H
_
2
2
 
:
=
 
h
P
_
2
2


 
 
 
 
r
e
p
l
a
c
e
 
h
D
_
2
2
 
:
 
v
a
_
D
 
A
 
[
(
h
,
 
.
i
n
r
 
(
1
1
,
 
[
.
r
e
f
 
h
l
k
,
 
.
r
e
f
 
h
v
,
 
.
r
e
f
 
h
t
,
 
.
r
e
f
 
h
c
o
l
,
 
.
r
e
f
 
h
a
n
s
,
 
.
i
n
t
 
c
f
o
r
,
 
.
i
n
t
 
c
b
a
c
k
,
 
.
i
n
t
 
f
i
l
t
]
)
)
,
 
(
h
v
,
 
.
i
n
r
 
(
1
0
,
 
[
.
i
n
t
 
(
n
I
 
r
v
)
,
 
.
r
e
f
 
h
u
s
e
r
,
 
.
r
e
f
 
h
o
w
n
e
r
,
 
.
r
e
f
 
h
t
r
i
e
d
,
 
.
r
e
f
 
h
i
d
e
n
t
,
 
.
r
e
f
 
h
t
a
p
e
,
 
.
i
n
t
 
g
i
v
e
n
,
 
.
r
e
f
 
h
s
e
c
r
e
t
,
 
.
r
e
f
 
q
e
n
t
,
 
.
r
e
f
 
h
n
o
e
,
 
.
i
n
t
 
p
e
r
m
,
 
.
i
n
t
 
p
l
a
i
n
]
)
)
,
 
(
h
i
d
e
n
t
,
 
.
i
n
r
 
(
6
,
 
[
.
r
e
f
 
a
i
d
e
n
t
,
 
.
i
n
t
 
t
_
2
3
.
2
.
1
]
)
)
,
 
(
a
i
d
e
n
t
,
 
.
i
n
l
 
(
E
.
2
.
1
,
 
3
2
,
 
.
i
n
l
 
t
_
2
3
.
2
.
2
)
)
]
 
:
=
 
h
D
_
2
2


 
 
 
 
c
l
e
a
r
 
h
P
 
h
D
 
h
S


 
 
 
 
r
e
f
i
n
e
 
l
v
_
g
o
t
o
 
(
t
g
t
 
:
=
 
1
1
)
 
h
x
 
h
b
 
d
L
_
i
d
_
5
 
(
b
y
 
d
e
c
i
d
e
)
 
?
_


 
 
 
 
r
e
f
i
n
e
 
l
v
_
i
c
o
n
s
t
 
(
v
 
:
=
 
0
)
 
h
x
 
h
b
 
d
L
_
i
d
_
1
1
 
(
b
y
 
d
e
c
i
d
e
)
 
?
_


 
 
 
 
r
e
f
i
n
e
 
v
x
_
r
e
t
 
?
_


 
 
 
 
h
a
v
e
 
h
p
o
s
t
 
:
 
(
(
0
,
 
t
_
2
3
.
2
)
 
:
 
I
n
t
3
2
 
×
 
(
g
R
o
w
)
)
 
=
 
F
_
L
_
i
d
_
e
 
X
i
d
e
n
t
 
v
b
 
:
=
 
(
s
h
o
w
 
F
_
L
_
i
d
_
e
 
X
i
d
e
n
t
 
v
b
 
=
 
(
(
0
,
 
t
_
2
3
.
2
)
 
:
 
I
n
t
3
2
 
×
 
(
g
R
o
w
)
)
 
f
r
o
m
 
(
g
L
e
t
_
e
q
 
h
t
_
2
3
 
(
(
i
f
_
p
o
s
 
c
_
2
9
)
.
t
r
a
n
s
 
r
f
l
)
)
)
.
s
y
m
m


 
 
 
 
h
a
v
e
 
h
P
9
 
:
=
 
h
P
_
2
2
.
s
u
b
 
(
w
s
'
 
:
=
 
[
(
h
,
 
.
i
n
r
 
(
1
1
,
 
[
.
r
e
f
 
h
l
k
,
 
.
r
e
f
 
h
v
,
 
.
r
e
f
 
h
t
,
 
.
r
e
f
 
h
c
o
l
,
 
.
r
e
f
 
h
a
n
s
,
 
.
i
n
t
 
c
f
o
r
,
 
.
i
n
t
 
c
b
a
c
k
,
 
.
i
n
t
 
f
i
l
t
]
)
)
,
 
(
h
v
,
 
.
i
n
r
 
(
1
0
,
 
[
.
i
n
t
 
(
n
I
 
r
v
)
,
 
.
r
e
f
 
h
u
s
e
r
,
 
.
r
e
f
 
h
o
w
n
e
r
,
 
.
r
e
f
 
h
t
r
i
e
d
,
 
.
r
e
f
 
h
i
d
e
n
t
,
 
.
r
e
f
 
h
t
a
p
e
,
 
.
i
n
t
 
g
i
v
e
n
,
 
.
r
e
f
 
h
s
e
c
r
e
t
,
 
.
r
e
f
 
q
e
n
t
,
 
.
r
e
f
 
h
n
o
e
,
 
.
i
n
t
 
p
e
r
m
,
 
.
i
n
t
 
p
l
a
i
n
]
)
)
,
 
(
h
i
d
e
n
t
,
 
.
i
n
r
 
(
6
,
 
[
.
r
e
f
 
a
i
d
e
n
t
,
 
.
i
n
t
 
t
_
2
3
.
2
.
1
]
)
)
,
 
(
a
i
d
e
n
t
,
 
.
i
n
l
 
(
E
.
2
.
1
,
 
3
2
,
 
.
i
n
l
 
t
_
2
3
.
2
.
2
)
)
]
)
 
[
0
,
 
1
,
 
2
,
 
3
]
 
r
f
l


 
 
 
 
h
a
v
e
 
h
D
9
 
:
=
 
h
D
_
2
2
.
s
u
b
 
(
w
s
'
 
:
=
 
[
(
h
,
 
.
i
n
r
 
(
1
1
,
 
[
.
r
e
f
 
h
l
k
,
 
.
r
e
f
 
h
v
,
 
.
r
e
f
 
h
t
,
 
.
r
e
f
 
h
c
o
l
,
 
.
r
e
f
 
h
a
n
s
,
 
.
i
n
t
 
c
f
o
r
,
 
.
i
n
t
 
c
b
a
c
k
,
 
.
i
n
t
 
f
i
l
t
]
)
)
,
 
(
h
v
,
 
.
i
n
r
 
(
1
0
,
 
[
.
i
n
t
 
(
n
I
 
r
v
)
,
 
.
r
e
f
 
h
u
s
e
r
,
 
.
r
e
f
 
h
o
w
n
e
r
,
 
.
r
e
f
 
h
t
r
i
e
d
,
 
.
r
e
f
 
h
i
d
e
n
t
,
 
.
r
e
f
 
h
t
a
p
e
,
 
.
i
n
t
 
g
i
v
e
n
,
 
.
r
e
f
 
h
s
e
c
r
e
t
,
 
.
r
e
f
 
q
e
n
t
,
 
.
r
e
f
 
h
n
o
e
,
 
.
i
n
t
 
p
e
r
m
,
 
.
i
n
t
 
p
l
a
i
n
]
)
)
,
 
(
h
i
d
e
n
t
,
 
.
i
n
r
 
(
6
,
 
[
.
r
e
f
 
a
i
d
e
n
t
,
 
.
i
n
t
 
t
_
2
3
.
2
.
1
]
)
)
,
 
(
a
i
d
e
n
t
,
 
.
i
n
l
 
(
E
.
2
.
1
,
 
3
2
,
 
.
i
n
l
 
t
_
2
3
.
2
.
2
)
)
]
)
 
[
0
,
 
1
,
 
2
,
 
3
]
 
(
b
y
 
d
e
c
i
d
e
)
 
r
f
l


 
 
 
 
e
x
a
c
t
 
W
.
i
r
e
t
 
(
v
 
:
=
 
0
)
 
h
x
 
h
b
 
h
r
 
(
f
u
n
 
t
 
h
t
 
h
W
 
=
>
 
⟨
⟨
0
,
 
t
_
2
3
.
2
,
 
r
f
l
,
 
⟨
c
o
n
g
r
A
r
g
 
P
r
o
d
.
f
s
t
 
h
p
o
s
t
,
 
c
o
n
g
r
A
r
g
 
P
r
o
d
.
s
n
d
 
h
p
o
s
t
⟩
,
 
b
y
 
r
w
 
[
h
t
]
;
 
e
x
a
c
t
 
h
P
9
,
 
h
D
9
⟩
,
 
h
S
_
2
2
.
F
 
h
t
⟩
)
 
h
S
_
2
2
.
2
.
2
 
d
L
_
i
d
_
1
2


s
e
t
_
o
p
t
i
o
n
 
m
a
x
H
e
a
r
t
b
e
a
t
s
 
4
0
0
0
0
0
0
 
i
n


s
e
t
_
o
p
t
i
o
n
 
m
a
x
R
e
c
D
e
p
t
h
 
1
0
0
0
0
0
 
i
n


t
h
e
o
r
e
m
 
k
_
L
_
t
a
p
e
_
e
 
(
E
 
:
 
g
E
)
 
(
s
a
 
:
 
N
a
t
 
→
 
N
a
t
)
 
(
c
L
 
:
 
C
l
a
s
s
I
d
)
 
(
l
 
:
 
L
a
u
n
c
h
)
 
(
h
s
t
 
:
 
l
.
s
t
a
c
k
T
r
a
c
e
s
 
=
 
f
a
l
s
e
)
 
(
h
 
a
o
u
t
 
h
l
k
 
h
v
 
h
t
 
h
c
o
l
 
h
a
n
s
 
h
u
s
e
r
 
h
o
w
n
e
r
 
h
t
r
i
e
d
 
h
i
d
e
n
t
 
h
t
a
p
e
 
h
s
e
c
r
e
t
 
q
e
n
t
 
h
n
o
e
 
a
t
a
p
e
 
:
 
N
a
t
)
 
(
r
v
 
:
 
N
a
t
)
 
(
c
f
o
r
 
:
 
I
n
t
3
2
)
 
(
c
b
a
c
k
 
:
 
I
n
t
3
2
)
 
(
f
i
l
t
 
:
 
I
n
t
3
2
)
 
(
g
i
v
e
n
 
:
 
I
n
t
3
2
)
 
(
p
e
r
m
 
:
 
I
n
t
3
2
)
 
(
p
l
a
i
n
 
:
 
I
n
t
3
2
)
 
(
X
t
a
p
e
 
:
 
g
R
o
w
)
 
(
g
g
 
:
 
N
a
t
 
→
 
I
n
t
6
4
)
 
(
v
w
 
:
 
I
n
t
3
2
)
 
:
 
g
H
i
 
E
 
s
a
 
c
L
 
l
 
y
L
_
t
a
p
e
 
w
s
L
_
t
a
p
e
 
(
{
 
f
r
a
m
e
s
 
:
=
 
7
,
 
c
e
l
l
s
 
:
=
 
1
,
 
s
l
o
t
s
 
:
=
 
6
,
 
l
o
c
a
l
s
 
:
=
 
1
0
4
 
}
)
 
1
 
6
 
[
.
r
e
f
 
h
,
 
.
i
n
t
 
v
w
,
 
.
r
e
f
 
a
o
u
t
]
 
[
(
h
,
 
.
i
n
r
 
(
1
1
,
 
[
.
r
e
f
 
h
l
k
,
 
.
r
e
f
 
h
v
,
 
.
r
e
f
 
h
t
,
 
.
r
e
f
 
h
c
o
l
,
 
.
r
e
f
 
h
a
n
s
,
 
.
i
n
t
 
c
f
o
r
,
 
.
i
n
t
 
c
b
a
c
k
,
 
.
i
n
t
 
f
i
l
t
]
)
)
,
 
(
h
v
,
 
.
i
n
r
 
(
1
0
,
 
[
.
i
n
t
 
(
n
I
 
r
v
)
,
 
.
r
e
f
 
h
u
s
e
r
,
 
.
r
e
f
 
h
o
w
n
e
r
,
 
.
r
e
f
 
h
t
r
i
e
d
,
 
.
r
e
f
 
h
i
d
e
n
t
,
 
.
r
e
f
 
h
t
a
p
e
,
 
.
i
n
t
 
g
i
v
e
n
,
 
.
r
e
f
 
h
s
e
c
r
e
t
,
 
.
r
e
f
 
q
e
n
t
,
 
.
r
e
f
 
h
n
o
e
,
 
.
i
n
t
 
p
e
r
m
,
 
.
i
n
t
 
p
l
a
i
n
]
)
)
,
 
(
h
t
a
p
e
,
 
.
i
n
r
 
(
6
,
 
[
.
r
e
f
 
a
t
a
p
e
,
 
.
i
n
t
 
X
t
a
p
e
.
1
]
)
)
,
 
(
a
t
a
p
e
,
 
.
i
n
l
 
(
E
.
2
.
1
,
 
4
0
0
,
 
.
i
n
l
 
X
t
a
p
e
.
2
)
)
,
 
(
a
o
u
t
,
 
.
i
n
l
 
(
c
L
,
 
1
,
 
.
i
n
r
 
(
.
i
n
l
 
g
g
)
)
)
]
 
(
f
u
n
 
(
r
r
 
:
 
I
n
t
3
2
)
 
(
u
u
 
:
 
g
R
o
w
 
×
 
(
N
a
t
 
→
 
I
n
t
6
4
)
)
 
=
>
 
r
r
 
=
 
(
F
_
L
_
t
a
p
e
_
e
 
X
t
a
p
e
 
g
g
 
v
w
)
.
1
 
∧
 
u
u
 
=
 
(
F
_
L
_
t
a
p
e
_
e
 
X
t
a
p
e
 
g
g
 
v
w
)
.
2
)
 
(
f
u
n
 
(
u
u
 
:
 
g
R
o
w
 
×
 
(
N
a
t
 
→
 
I
n
t
6
4
)
)
 
=
>
 
[
(
h
,
 
.
i
n
r
 
(
1
1
,
 
[
.
r
e
f
 
h
l
k
,
 
.
r
e
f
 
h
v
,
 
.
r
e
f
 
h
t
,
 
.
r
e
f
 
h
c
o
l
,
 
.
r
e
f
 
h
a
n
s
,
 
.
i
n
t
 
c
f
o
r
,
 
.
i
n
t
 
c
b
a
c
k
,
 
.
i
n
t
 
f
i
l
t
]
)
)
,
 
(
h
v
,
 
.
i
n
r
 
(
1
0
,
 
[
.
i
n
t
 
(
n
I
 
r
v
)
,
 
.
r
e
f
 
h
u
s
e
r
,
 
.
r
e
f
 
h
o
w
n
e
r
,
 
.
r
e
f
 
h
t
r
i
e
d
,
 
.
r
e
f
 
h
i
d
e
n
t
,
 
.
r
e
f
 
h
t
a
p
e
,
 
.
i
n
t
 
g
i
v
e
n
,
 
.
r
e
f
 
h
s
e
c
r
e
t
,
 
.
r
e
f
 
q
e
n
t
,
 
.
r
e
f
 
h
n
o
e
,
 
.
i
n
t
 
p
e
r
m
,
 
.
i
n
t
 
p
l
a
i
n
]
)
)
,
 
(
h
t
a
p
e
,
 
.
i
n
r
 
(
6
,
 
[
.
r
e
f
 
a
t
a
p
e
,
 
.
i
n
t
 
u
u
.
1
.
1
]
)
)
,
 
(
a
t
a
p
e
,
 
.
i
n
l
 
(
E
.
2
.
1
,
 
4
0
0
,
 
.
i
n
l
 
u
u
.
1
.
2
)
)
,
 
(
a
o
u
t
,
 
.
i
n
l
 
(
c
L
,
 
1
,
 
.
i
n
r
 
(
.
i
n
l
 
u
u
.
2
)
)
)
]
)
 
:
=
 
b
y


 
 
i
n
t
r
o
 
s
z


 
 
r
e
f
i
n
e
 
v
x
_
o
f
W
H
 
(
h
h
 
:
=
 
[
(
0
,
 
9
,
 
1
2
,
 
1
3
)
]
)
 
(
c
c
 
:
=
 
c
L
_
t
a
p
e
)
 
(
m
a
x
L
 
:
=
 
4
)
 
(
r
e
t
 
:
=
 
(
s
o
m
e
 
.
i
n
t
)
)
 
(
b
y
 
d
e
c
i
d
e
)
 
r
f
l
 
?
_


 
 
i
n
t
r
o
 
p
 
e
 
s
 
m
 
a
r
g
s
 
b
e
l
o
w
 
m
e
t
h
 
c
 
s
₁
 
B
 
h
m
l
 
h
v


 
 
o
b
t
a
i
n
 
⟨
r
f
l
,
 
h
s
z
,
 
h
P
,
 
⟨
h
V
,
 
h
X
,
 
h
L
⟩
,
 
h
D
0
⟩
 
:
=
 
h
v


 
 
h
a
v
e
 
h
x
 
:
=
 
B
.
e
x
e
c


 
 
h
a
v
e
 
h
b
 
:
=
 
B
.
b
y
t
e
s


 
 
h
a
v
e
 
h
r
 
:
=
 
B
.
r
e
t
u
r
n
s


 
 
h
a
v
e
 
h
t
s
 
:
=
 
a
t
o
m
s
_
s
p
e
c
 
(
w
s
 
:
=
 
w
s
L
_
t
a
p
e
)
 
B
.
p
r
e


 
 
h
a
v
e
 
h
o
w
n
 
:
 
s
.
v
m
.
f
i
n
d
C
l
a
s
s
 
R
L
 
=
 
s
o
m
e
 
m
.
c
l
s
 
:
=
 
f
i
n
d
C
l
a
s
s
_
o
f
_
m
e
t
h
o
d
N
a
m
e
d
 
B
.
n
a
m
e
d


 
 
h
a
v
e
 
h
l
o
c
k
s
 
:
=
 
B
.
n
o
t
S
y
n
c
h
r
o
n
i
z
e
d


 
 
h
a
v
e
 
h
t
a
b
 
:
=
 
v
x
_
t
a
b
l
e
 
B
 
(
h
t
s
 
(
.
c
o
d
e
W
i
t
h
 
y
L
_
t
a
p
e
 
c
L
_
t
a
p
e
 
4
 
(
s
o
m
e
 
.
i
n
t
)
 
[
(
0
,
 
9
,
 
1
2
,
 
1
3
)
]
)
 
(
b
y
 
d
e
c
i
d
e
 
+
k
e
r
n
e
l
)
)


 
 
s
u
b
s
t
 
h
s
z


 
 
h
a
v
e
 
h
D
 
:
=
 
h
D
0
.
s
e
l
f
 
(
s
z
 
:
=
 
s
.
h
e
a
p
.
s
i
z
e
)


 
 
c
l
e
a
r
 
h
D
0


 
 
g
e
n
e
r
a
l
i
z
e
 
h
A
e
 
:
 
v
a
_
A
 
[
(
h
,
 
.
i
n
r
 
(
1
1
,
 
[
.
r
e
f
 
h
l
k
,
 
.
r
e
f
 
h
v
,
 
.
r
e
f
 
h
t
,
 
.
r
e
f
 
h
c
o
l
,
 
.
r
e
f
 
h
a
n
s
,
 
.
i
n
t
 
c
f
o
r
,
 
.
i
n
t
 
c
b
a
c
k
,
 
.
i
n
t
 
f
i
l
t
]
)
)
,
 
(
h
v
,
 
.
i
n
r
 
(
1
0
,
 
[
.
i
n
t
 
(
n
I
 
r
v
)
,
 
.
r
e
f
 
h
u
s
e
r
,
 
.
r
e
f
 
h
o
w
n
e
r
,
 
.
r
e
f
 
h
t
r
i
e
d
,
 
.
r
e
f
 
h
i
d
e
n
t
,
 
.
r
e
f
 
h
t
a
p
e
,
 
.
i
n
t
 
g
i
v
e
n
,
 
.
r
e
f
 
h
s
e
c
r
e
t
,
 
.
r
e
f
 
q
e
n
t
,
 
.
r
e
f
 
h
n
o
e
,
 
.
i
n
t
 
p
e
r
m
,
 
.
i
n
t
 
p
l
a
i
n
]
)
)
,
 
(
h
t
a
p
e
,
 
.
i
n
r
 
(
6
,
 
[
.
r
e
f
 
a
t
a
p
e
,
 
.
i
n
t
 
X
t
a
p
e
.
1
]
)
)
,
 
(
a
t
a
p
e
,
 
.
i
n
l
 
(
E
.
2
.
1
,
 
4
0
0
,
 
.
i
n
l
 
X
t
a
p
e
.
2
)
)
,
 
(
a
o
u
t
,
 
.
i
n
l
 
(
c
L
,
 
1
,
 
.
i
n
r
 
(
.
i
n
l
 
g
g
)
)
)
]
 
s
.
h
e
a
p
.
s
i
z
e
 
=
 
A
 
a
t
 
h
D
 
h
V
 
h
X
 
⊢


 
 
h
a
v
e
 
h
A
 
:
 
∀
 
q
 
:
 
N
a
t
,
 
s
.
h
e
a
p
.
s
i
z
e
 
≤
 
q
 
→
 
A
 
q
 
:
=
 
f
u
n
 
q
 
h
 
=
>
 
b
y
 
r
w
 
[
←
 
h
A
e
]
;
 
e
x
a
c
t
 
O
r
.
i
n
r
 
h


 
 
h
a
v
e
 
h
S
 
:
 
v
a
_
S
 
A
 
s
.
h
e
a
p
 
s
.
h
e
a
p
 
[
]
 
:
=
 
v
a
_
S
.
r
f


 
 
h
a
v
e
 
h
K
 
:
=
 
h
V
.
1


 
 
h
a
v
e
 
h
F
 
:
 
C
a
l
l
F
i
x
 
p
 
m
 
c
 
c
L
_
t
a
p
e
 
4
 
s
 
_
 
w
s
L
_
t
a
p
e
 
R
L
 
:
=
 
⟨
h
x
,
 
h
b
,
 
h
m
l
,
 
h
o
w
n
,
 
h
t
s
⟩


 
 
h
a
v
e
 
h
l
 
:
=
 
l
v
_
e
n
t
r
y
 
[
.
r
e
f
 
h
,
 
.
i
n
t
 
v
w
,
 
.
r
e
f
 
a
o
u
t
]
 
(
n
 
:
=
 
4
)
 
(
N
a
t
.
l
e
_
o
f
_
b
l
e
_
e
q
_
t
r
u
e
 
r
f
l
)


 
 
r
w
 
[
l
g
_
e
n
t
r
y
_
e
q
]


 
 
g
e
n
e
r
a
l
i
z
e
 
(
l
g
_
s
l
 
[
.
r
e
f
 
h
,
 
.
i
n
t
 
v
w
,
 
.
r
e
f
 
a
o
u
t
]
 
+
+
 
L
i
s
t
.
r
e
p
l
i
c
a
t
e
 
(
4
 
-
 
(
l
g
_
s
l
 
[
.
r
e
f
 
h
,
 
.
i
n
t
 
v
w
,
 
.
r
e
f
 
a
o
u
t
]
)
.
l
e
n
g
t
h
)
 
S
l
o
t
.
u
n
s
e
t
)
.
t
o
A
r
r
a
y
 
=
 
l
s
 
a
t
 
h
l
 
⊢


 
 
h
a
v
e
 
h
l
 
:
 
l
v
_
h
a
s
 
l
s
 
4
 
[
(
0
,
 
.
r
e
f
 
h
)
,
 
(
1
,
 
.
i
n
t
 
v
w
)
,
 
(
2
,
 
.
r
e
f
 
a
o
u
t
)
]
 
:
=
 
h
l


 
 
h
a
v
e
 
w
_
0
 
:
=
 
h
t
s
 
(
.
c
l
a
s
s
L
i
n
k
 
R
L
 
1
3
 
"
j
a
v
a
/
l
a
n
g
/
U
n
s
u
p
p
o
r
t
e
d
O
p
e
r
a
t
i
o
n
E
x
c
e
p
t
i
o
n
"
)
 
(
b
y
 
d
e
c
i
d
e
 
+
k
e
r
n
e
l
)


 
 
r
e
f
i
n
e
 
l
v
_
a
l
o
a
d
_
n
 
h
x
 
h
b
 
d
L
_
t
a
p
e
_
0
 
r
f
l
 
(
l
v
_
a
t
 
h
l
 
2
 
r
f
l
)
 
?
_


 
 
r
e
f
i
n
e
 
l
v
_
i
c
o
n
s
t
 
(
v
 
:
=
 
0
)
 
h
x
 
h
b
 
d
L
_
t
a
p
e
_
1
 
(
b
y
 
d
e
c
i
d
e
)
 
?
_


 
 
r
e
f
i
n
e
 
l
v
_
a
l
o
a
d
_
n
 
h
x
 
h
b
 
d
L
_
t
a
p
e
_
2
 
r
f
l
 
(
l
v
_
a
t
 
h
l
 
0
 
r
f
l
)
 
?
_


 
 
r
e
f
i
n
e
 
l
v
_
i
l
o
a
d
_
n
 
h
x
 
h
b
 
d
L
_
t
a
p
e
_
3
 
r
f
l
 
(
l
v
_
a
t
 
h
l
 
1
 
r
f
l
)
 
?
_


 
 
o
b
t
a
i
n
 
⟨
t
_
2
5
,
 
h
t
_
2
5
⟩
 
:
 
∃
 
t
9
 
:
 
N
a
t
 
×
 
(
I
n
t
3
2
 
×
 
(
g
R
o
w
)
)
,
 
t
9
 
=
 
F
_
X
1
0
_
t
a
p
e
_
e
 
X
t
a
p
e
 
v
w
 
:
=
 
⟨
_
,
 
r
f
l
⟩


 
 
r
e
f
i
n
e
 
g
T
V
i
 
h
F
 
h
l
 
h
V
 
h
X
 
h
P
 
h
D
 
h
S
 
h
A
 
[
0
,
 
1
,
 
2
,
 
3
]
 
[
4
]
 
(
w
c
 
:
=
 
[
(
h
,
 
.
i
n
r
 
(
1
1
,
 
[
.
r
e
f
 
h
l
k
,
 
.
r
e
f
 
h
v
,
 
.
r
e
f
 
h
t
,
 
.
r
e
f
 
h
c
o
l
,
 
.
r
e
f
 
h
a
n
s
,
 
.
i
n
t
 
c
f
o
r
,
 
.
i
n
t
 
c
b
a
c
k
,
 
.
i
n
t
 
f
i
l
t
]
)
)
,
 
(
h
v
,
 
.
i
n
r
 
(
1
0
,
 
[
.
i
n
t
 
(
n
I
 
r
v
)
,
 
.
r
e
f
 
h
u
s
e
r
,
 
.
r
e
f
 
h
o
w
n
e
r
,
 
.
r
e
f
 
h
t
r
i
e
d
,
 
.
r
e
f
 
h
i
d
e
n
t
,
 
.
r
e
f
 
h
t
a
p
e
,
 
.
i
n
t
 
g
i
v
e
n
,
 
.
r
e
f
 
h
s
e
c
r
e
t
,
 
.
r
e
f
 
q
e
n
t
,
 
.
r
e
f
 
h
n
o
e
,
 
.
i
n
t
 
p
e
r
m
,
 
.
i
n
t
 
p
l
a
i
n
]
)
)
,
 
(
h
t
a
p
e
,
 
.
i
n
r
 
(
6
,
 
[
.
r
e
f
 
a
t
a
p
e
,
 
.
i
n
t
 
X
t
a
p
e
.
1
]
)
)
,
 
(
a
t
a
p
e
,
 
.
i
n
l
 
(
E
.
2
.
1
,
 
4
0
0
,
 
.
i
n
l
 
X
t
a
p
e
.
2
)
)
]
)
 
(
w
r
 
:
=
 
[
(
a
o
u
t
,
 
.
i
n
l
 
(
c
L
,
 
1
,
 
.
i
n
r
 
(
.
i
n
l
 
g
g
)
)
)
]
)
 
r
f
l
 
r
f
l
 
r
f
l
 
(
b
y
 
d
e
c
i
d
e
)
 
0
 
1
1
 
r
f
l
 
r
f
l
 
r
f
l
 
(
k
_
X
1
0
_
t
a
p
e
_
e
 
E
 
s
a
 
l
 
h
s
t
 
h
 
h
l
k
 
h
v
 
h
t
 
h
c
o
l
 
h
a
n
s
 
h
u
s
e
r
 
h
o
w
n
e
r
 
h
t
r
i
e
d
 
h
i
d
e
n
t
 
h
t
a
p
e
 
h
s
e
c
r
e
t
 
q
e
n
t
 
h
n
o
e
 
a
t
a
p
e
 
r
v
 
c
f
o
r
 
c
b
a
c
k
 
f
i
l
t
 
g
i
v
e
n
 
p
e
r
m
 
p
l
a
i
n
 
X
t
a
p
e
 
v
w
)
 
(
c
w
V
 
1
 
h
t
s
 
g
L
_
t
a
p
e
_
X
1
0
_
t
a
p
e
 
r
f
l
 
r
f
l
 
r
f
l
 
(
b
y
 
d
e
c
i
d
e
 
+
k
e
r
n
e
l
)
 
⟨
N
a
t
.
l
e
_
o
f
_
b
l
e
_
e
q
_
t
r
u
e
 
r
f
l
,
 
N
a
t
.
l
e
_
o
f
_
b
l
e
_
e
q
_
t
r
u
e
 
r
f
l
⟩
)
 
r
f
l
 
r
f
l
 
r
f
l
 
(
N
a
t
.
l
e
_
o
f
_
b
l
e
_
e
q
_
t
r
u
e
 
r
f
l
)
 
d
L
_
t
a
p
e
_
4
 
⟨
N
a
t
.
l
e
_
o
f
_
b
l
e
_
e
q
_
t
r
u
e
 
r
f
l
,
 
N
a
t
.
l
e
_
o
f
_
b
l
e
_
e
q
_
t
r
u
e
 
r
f
l
⟩
 
(
f
u
n
 
n
m
_
2
6
 
c
e
_
2
6
 
q
_
2
6
 
H
_
2
7
 
l
o
c
s
_
2
7
 
p
x
_
2
6
 
h
P
_
2
7
 
h
D
_
2
7
 
h
S
_
2
7
 
h
c
e
_
2
6
 
h
c
v
_
2
6
 
h
c
l
_
2
6
 
=
>
 
?
_
)
 
(
f
u
n
 
r
_
2
3
 
u
_
2
3
 
H
_
2
4
 
l
o
c
s
_
2
4
 
h
u
_
2
3
 
h
P
_
2
4
 
h
D
_
2
4
 
h
S
_
2
4
 
=
>
 
?
_
)


 
 
·
 
r
e
p
l
a
c
e
 
h
P
_
2
7
 
:
 
v
a
_
P
 
E
.
1
 
v
w
C
l
 
[
(
a
o
u
t
,
 
.
i
n
l
 
(
c
L
,
 
1
,
 
.
i
n
r
 
(
.
i
n
l
 
g
g
)
)
)
,
 
(
h
,
 
.
i
n
r
 
(
1
1
,
 
[
.
r
e
f
 
h
l
k
,
 
.
r
e
f
 
h
v
,
 
.
r
e
f
 
h
t
,
 
.
r
e
f
 
h
c
o
l
,
 
.
r
e
f
 
h
a
n
s
,
 
.
i
n
t
 
c
f
o
r
,
 
.
i
n
t
 
c
b
a
c
k
,
 
.
i
n
t
 
f
i
l
t
]
)
)
,
 
(
h
v
,
 
.
i
n
r
 
(
1
0
,
 
[
.
i
n
t
 
(
n
I
 
r
v
)
,
 
.
r
e
f
 
h
u
s
e
r
,
 
.
r
e
f
 
h
o
w
n
e
r
,
 
.
r
e
f
 
h
t
r
i
e
d
,
 
.
r
e
f
 
h
i
d
e
n
t
,
 
.
r
e
f
 
h
t
a
p
e
,
 
.
i
n
t
 
g
i
v
e
n
,
 
.
r
e
f
 
h
s
e
c
r
e
t
,
 
.
r
e
f
 
q
e
n
t
,
 
.
r
e
f
 
h
n
o
e
,
 
.
i
n
t
 
p
e
r
m
,
 
.
i
n
t
 
p
l
a
i
n
]
)
)
,
 
(
h
t
a
p
e
,
 
.
i
n
r
 
(
6
,
 
[
.
r
e
f
 
a
t
a
p
e
,
 
.
i
n
t
 
X
t
a
p
e
.
1
]
)
)
,
 
(
a
t
a
p
e
,
 
.
i
n
l
 
(
E
.
2
.
1
,
 
4
0
0
,
 
.
i
n
l
 
X
t
a
p
e
.
2
)
)
]
 
H
_
2
7
 
:
=
 
h
P
_
2
7


 
 
 
 
r
e
p
l
a
c
e
 
h
D
_
2
7
 
:
 
v
a
_
D
 
A
 
[
(
a
o
u
t
,
 
.
i
n
l
 
(
c
L
,
 
1
,
 
.
i
n
r
 
(
.
i
n
l
 
g
g
)
)
)
,
 
(
h
,
 
.
i
n
r
 
(
1
1
,
 
[
.
r
e
f
 
h
l
k
,
 
.
r
e
f
 
h
v
,
 
.
r
e
f
 
h
t
,
 
.
r
e
f
 
h
c
o
l
,
 
.
r
e
f
 
h
a
n
s
,
 
.
i
n
t
 
c
f
o
r
,
 
.
i
n
t
 
c
b
a
c
k
,
 
.
i
n
t
 
f
i
l
t
]
)
)
,
 
(
h
v
,
 
.
i
n
r
 
(
1
0
,
 
[
.
i
n
t
 
(
n
I
 
r
v
)
,
 
.
r
e
f
 
h
u
s
e
r
,
 
.
r
e
f
 
h
o
w
n
e
r
,
 
.
r
e
f
 
h
t
r
i
e
d
,
 
.
r
e
f
 
h
i
d
e
n
t
,
 
.
r
e
f
 
h
t
a
p
e
,
 
.
i
n
t
 
g
i
v
e
n
,
 
.
r
e
f
 
h
s
e
c
r
e
t
,
 
.
r
e
f
 
q
e
n
t
,
 
.
r
e
f
 
h
n
o
e
,
 
.
i
n
t
 
p
e
r
m
,
 
.
i
n
t
 
p
l
a
i
n
]
)
)
,
 
(
h
t
a
p
e
,
 
.
i
n
r
 
(
6
,
 
[
.
r
e
f
 
a
t
a
p
e
,
 
.
i
n
t
 
X
t
a
p
e
.
1
]
)
)
,
 
(
a
t
a
p
e
,
 
.
i
n
l
 
(
E
.
2
.
1
,
 
4
0
0
,
 
.
i
n
l
 
X
t
a
p
e
.
2
)
)
]
 
:
=
 
h
D
_
2
7


 
 
 
 
c
l
e
a
r
 
h
P
 
h
D
 
h
S


 
 
 
 
h
a
v
e
 
c
_
2
8
 
:
 
¬
 
t
_
2
5
.
1
 
=
 
0
 
:
=
 
b
y
 
r
w
 
[
h
t
_
2
5
]
;
 
e
x
a
c
t
 
p
x
_
2
6
.
2


 
 
 
 
h
a
v
e
 
c
_
2
9
 
:
 
t
_
2
5
.
1
 
=
 
5
 
:
=
 
b
y
 
h
a
v
e
 
q
9
 
:
=
 
L
c
_
X
1
0
_
t
a
p
e
_
e
 
_
 
_
;
 
r
w
 
[
←
 
h
t
_
2
5
]
 
a
t
 
q
9
;
 
o
m
e
g
a


 
 
 
 
o
b
t
a
i
n
 
r
f
l
 
:
 
n
m
_
2
6
 
=
 
"
j
a
v
a
/
l
a
n
g
/
U
n
s
u
p
p
o
r
t
e
d
O
p
e
r
a
t
i
o
n
E
x
c
e
p
t
i
o
n
"
 
:
=
 
p
x
_
2
6
.
1
.
t
r
a
n
s
 
(
b
y
 
r
w
 
[
←
 
h
t
_
2
5
,
 
c
_
2
9
]
;
 
r
f
l
)


 
 
 
 
r
e
f
i
n
e
 
v
x
_
c
a
t
c
h
 
h
o
w
n
 
[
]
 
⟨
0
,
 
9
,
 
1
2
,
 
1
3
⟩
 
[
]
 
(
b
y
 
r
w
 
[
h
t
a
b
]
;
 
r
f
l
)
 
(
f
u
n
 
z
 
h
9
 
=
>
 
a
b
s
u
r
d
 
h
9
 
L
i
s
t
.
n
o
t
_
m
e
m
_
n
i
l
)
 
(
b
y
 
d
e
c
i
d
e
)
 
(
b
y
 
d
e
c
i
d
e
)
 
w
_
0
 
(
v
a
_
N
w
.
u
s
e
 
r
f
l
 
(
h
X
.
2
.
1
 
(
.
c
a
s
t
a
b
l
e
 
"
j
a
v
a
/
l
a
n
g
/
U
n
s
u
p
p
o
r
t
e
d
O
p
e
r
a
t
i
o
n
E
x
c
e
p
t
i
o
n
"
 
"
j
a
v
a
/
l
a
n
g
/
U
n
s
u
p
p
o
r
t
e
d
O
p
e
r
a
t
i
o
n
E
x
c
e
p
t
i
o
n
"
)
 
(
b
y
 
d
e
c
i
d
e
 
+
k
e
r
n
e
l
)
)
)
 
h
c
e
_
2
6
 
h
c
v
_
2
6
 
h
c
l
_
2
6
 
?
_


 
 
 
 
r
e
f
i
n
e
 
l
v
_
a
s
t
o
r
e
_
n
 
(
l
v
'
 
:
=
 
[
(
3
,
 
.
r
e
f
 
q
_
2
6
)
,
 
(
0
,
 
.
r
e
f
 
h
)
,
 
(
1
,
 
.
i
n
t
 
v
w
)
,
 
(
2
,
 
.
r
e
f
 
a
o
u
t
)
]
)
 
h
x
 
h
b
 
d
L
_
t
a
p
e
_
1
2
 
r
f
l
 
h
l
 
(
b
y
 
d
e
c
i
d
e
)
 
r
f
l
 
(
f
u
n
 
l
s
_
3
0
 
h
l
_
3
0
 
=
>
 
?
_
)


 
 
 
 
c
l
e
a
r
 
h
l


 
 
 
 
r
e
f
i
n
e
 
l
v
_
i
c
o
n
s
t
 
(
v
 
:
=
 
1
)
 
h
x
 
h
b
 
d
L
_
t
a
p
e
_
1
3
 
(
b
y
 
d
e
c
i
d
e
)
 
?
_


 
 
 
 
r
e
f
i
n
e
 
v
x
_
r
e
t
 
?
_


 
 
 
 
h
a
v
e
 
h
p
o
s
t
 
:
 
(
(
1
,
 
(
X
t
a
p
e
,
 
g
g
)
)
 
:
 
I
n
t
3
2
 
×
 
(
g
R
o
w
 
×
 
(
N
a
t
 
→
 
I
n
t
6
4
)
)
)
 
=
 
F
_
L
_
t
a
p
e
_
e
 
X
t
a
p
e
 
g
g
 
v
w
 
:
=
 
(
s
h
o
w
 
F
_
L
_
t
a
p
e
_
e
 
X
t
a
p
e
 
g
g
 
v
w
 
=
 
(
(
1
,
 
(
X
t
a
p
e
,
 
g
g
)
)
 
:
 
I
n
t
3
2
 
×
 
(
g
R
o
w
 
×
 
(
N
a
t
 
→
 
I
n
t
6
4
)
)
)
 
f
r
o
m
 
(
g
L
e
t
_
e
q
 
h
t
_
2
5
 
(
(
i
f
_
n
e
g
 
c
_
2
8
)
.
t
r
a
n
s
 
r
f
l
)
)
)
.
s
y
m
m


 
 
 
 
h
a
v
e
 
h
P
9
 
:
=
 
h
P
_
2
7
.
s
u
b
 
(
w
s
'
 
:
=
 
[
(
h
,
 
.
i
n
r
 
(
1
1
,
 
[
.
r
e
f
 
h
l
k
,
 
.
r
e
f
 
h
v
,
 
.
r
e
f
 
h
t
,
 
.
r
e
f
 
h
c
o
l
,
 
.
r
e
f
 
h
a
n
s
,
 
.
i
n
t
 
c
f
o
r
,
 
.
i
n
t
 
c
b
a
c
k
,
 
.
i
n
t
 
f
i
l
t
]
)
)
,
 
(
h
v
,
 
.
i
n
r
 
(
1
0
,
 
[
.
i
n
t
 
(
n
I
 
r
v
)
,
 
.
r
e
f
 
h
u
s
e
r
,
 
.
r
e
f
 
h
o
w
n
e
r
,
 
.
r
e
f
 
h
t
r
i
e
d
,
 
.
r
e
f
 
h
i
d
e
n
t
,
 
.
r
e
f
 
h
t
a
p
e
,
 
.
i
n
t
 
g
i
v
e
n
,
 
.
r
e
f
 
h
s
e
c
r
e
t
,
 
.
r
e
f
 
q
e
n
t
,
 
.
r
e
f
 
h
n
o
e
,
 
.
i
n
t
 
p
e
r
m
,
 
.
i
n
t
 
p
l
a
i
n
]
)
)
,
 
(
h
t
a
p
e
,
 
.
i
n
r
 
(
6
,
 
[
.
r
e
f
 
a
t
a
p
e
,
 
.
i
n
t
 
X
t
a
p
e
.
1
]
)
)
,
 
(
a
t
a
p
e
,
 
.
i
n
l
 
(
E
.
2
.
1
,
 
4
0
0
,
 
.
i
n
l
 
X
t
a
p
e
.
2
)
)
,
 
(
a
o
u
t
,
 
.
i
n
l
 
(
c
L
,
 
1
,
 
.
i
n
r
 
(
.
i
n
l
 
g
g
)
)
)
]
)
 
[
1
,
 
2
,
 
3
,
 
4
,
 
0
]
 
r
f
l


 
 
 
 
h
a
v
e
 
h
D
9
 
:
=
 
h
D
_
2
7
.
s
u
b
 
(
w
s
'
 
:
=
 
[
(
h
,
 
.
i
n
r
 
(
1
1
,
 
[
.
r
e
f
 
h
l
k
,
 
.
r
e
f
 
h
v
,
 
.
r
e
f
 
h
t
,
 
.
r
e
f
 
h
c
o
l
,
 
.
r
e
f
 
h
a
n
s
,
 
.
i
n
t
 
c
f
o
r
,
 
.
i
n
t
 
c
b
a
c
k
,
 
.
i
n
t
 
f
i
l
t
]
)
)
,
 
(
h
v
,
 
.
i
n
r
 
(
1
0
,
 
[
.
i
n
t
 
(
n
I
 
r
v
)
,
 
.
r
e
f
 
h
u
s
e
r
,
 
.
r
e
f
 
h
o
w
n
e
r
,
 
.
r
e
f
 
h
t
r
i
e
d
,
 
.
r
e
f
 
h
i
d
e
n
t
,
 
.
r
e
f
 
h
t
a
p
e
,
 
.
i
n
t
 
g
i
v
e
n
,
 
.
r
e
f
 
h
s
e
c
r
e
t
,
 
.
r
e
f
 
q
e
n
t
,
 
.
r
e
f
 
h
n
o
e
,
 
.
i
n
t
 
p
e
r
m
,
 
.
i
n
t
 
p
l
a
i
n
]
)
)
,
 
(
h
t
a
p
e
,
 
.
i
n
r
 
(
6
,
 
[
.
r
e
f
 
a
t
a
p
e
,
 
.
i
n
t
 
X
t
a
p
e
.
1
]
)
)
,
 
(
a
t
a
p
e
,
 
.
i
n
l
 
(
E
.
2
.
1
,
 
4
0
0
,
 
.
i
n
l
 
X
t
a
p
e
.
2
)
)
,
 
(
a
o
u
t
,
 
.
i
n
l
 
(
c
L
,
 
1
,
 
.
i
n
r
 
(
.
i
n
l
 
g
g
)
)
)
]
)
 
[
1
,
 
2
,
 
3
,
 
4
,
 
0
]
 
(
b
y
 
d
e
c
i
d
e
)
 
r
f
l


 
 
 
 
e
x
a
c
t
 
W
.
i
r
e
t
 
(
v
 
:
=
 
1
)
 
h
x
 
h
b
 
h
r
 
(
f
u
n
 
t
 
h
t
 
h
W
 
=
>
 
⟨
⟨
1
,
 
(
X
t
a
p
e
,
 
g
g
)
,
 
r
f
l
,
 
⟨
c
o
n
g
r
A
r
g
 
P
r
o
d
.
f
s
t
 
h
p
o
s
t
,
 
c
o
n
g
r
A
r
g
 
P
r
o
d
.
s
n
d
 
h
p
o
s
t
⟩
,
 
b
y
 
r
w
 
[
h
t
]
;
 
e
x
a
c
t
 
h
P
9
,
 
h
D
9
⟩
,
 
h
S
_
2
7
.
F
 
h
t
⟩
)
 
h
S
_
2
7
.
2
.
2
 
d
L
_
t
a
p
e
_
1
4


 
 
·
 
h
a
v
e
 
e
_
3
2
 
:
 
t
_
2
5
 
=
 
(
(
0
,
 
(
r
_
2
3
,
 
u
_
2
3
)
)
 
:
 
N
a
t
 
×
 
(
I
n
t
3
2
 
×
 
(
g
R
o
w
)
)
)
 
:
=
 
h
t
_
2
5
.
t
r
a
n
s
 
h
u
_
2
3
.
s
y
m
m


 
 
 
 
h
a
v
e
 
c
_
3
1
 
:
 
t
_
2
5
.
1
 
=
 
0
 
:
=
 
b
y
 
r
w
 
[
e
_
3
2
]


 
 
 
 
o
b
t
a
i
n
 
r
f
l
 
:
 
r
_
2
3
 
=
 
t
_
2
5
.
2
.
1
 
:
=
 
(
c
o
n
g
r
A
r
g
 
(
f
u
n
 
z
 
:
 
N
a
t
 
×
 
(
I
n
t
3
2
 
×
 
(
g
R
o
w
)
)
 
=
>
 
z
.
2
.
1
)
 
e
_
3
2
)
.
s
y
m
m


 
 
 
 
o
b
t
a
i
n
 
r
f
l
 
:
 
u
_
2
3
 
=
 
t
_
2
5
.
2
.
2
 
:
=
 
(
c
o
n
g
r
A
r
g
 
(
f
u
n
 
z
 
:
 
N
a
t
 
×
 
(
I
n
t
3
2
 
×
 
(
g
R
o
w
)
)
 
=
>
 
z
.
2
.
2
)
 
e
_
3
2
)
.
s
y
m
m


 
 
 
 
r
e
p
l
a
c
e
 
h
P
_
2
4
 
:
 
v
a
_
P
 
E
.
1
 
v
w
C
l
 
[
(
a
o
u
t
,
 
.
i
n
l
 
(
c
L
,
 
1
,
 
.
i
n
r
 
(
.
i
n
l
 
g
g
)
)
)
,
 
(
h
,
 
.
i
n
r
 
(
1
1
,
 
[
.
r
e
f
 
h
l
k
,
 
.
r
e
f
 
h
v
,
 
.
r
e
f
 
h
t
,
 
.
r
e
f
 
h
c
o
l
,
 
.
r
e
f
 
h
a
n
s
,
 
.
i
n
t
 
c
f
o
r
,
 
.
i
n
t
 
c
b
a
c
k
,
 
.
i
n
t
 
f
i
l
t
]
)
)
,
 
(
h
v
,
 
.
i
n
r
 
(
1
0
,
 
[
.
i
n
t
 
(
n
I
 
r
v
)
,
 
.
r
e
f
 
h
u
s
e
r
,
 
.
r
e
f
 
h
o
w
n
e
r
,
 
.
r
e
f
 
h
t
r
i
e
d
,
 
.
r
e
f
 
h
i
d
e
n
t
,
 
.
r
e
f
 
h
t
a
p
e
,
 
.
i
n
t
 
g
i
v
e
n
,
 
.
r
e
f
 
h
s
e
c
r
e
t
,
 
.
r
e
f
 
q
e
n
t
,
 
.
r
e
f
 
h
n
o
e
,
 
.
i
n
t
 
p
e
r
m
,
 
.
i
n
t
 
p
l
a
i
n
]
)
)
,
 
(
h
t
a
p
e
,
 
.
i
n
r
 
(
6
,
 
[
.
r
e
f
 
a
t
a
p
e
,
 
.
i
n
t
 
t
_
2
5
.
2
.
2
.
1
]
)
)
,
 
(
a
t
a
p
e
,
 
.
i
n
l
 
(
E
.
2
.
1
,
 
4
0
0
,
 
.
i
n
l
 
t
_
2
5
.
2
.
2
.
2
)
)
]
 
H
_
2
4
 
:
=
 
h
P
_
2
4


 
 
 
 
r
e
p
l
a
c
e
 
h
D
_
2
4
 
:
 
v
a
_
D
 
A
 
[
(
a
o
u
t
,
 
.
i
n
l
 
(
c
L
,
 
1
,
 
.
i
n
r
 
(
.
i
n
l
 
g
g
)
)
)
,
 
(
h
,
 
.
i
n
r
 
(
1
1
,
 
[
.
r
e
f
 
h
l
k
,
 
.
r
e
f
 
h
v
,
 
.
r
e
f
 
h
t
,
 
.
r
e
f
 
h
c
o
l
,
 
.
r
e
f
 
h
a
n
s
,
 
.
i
n
t
 
c
f
o
r
,
 
.
i
n
t
 
c
b
a
c
k
,
 
.
i
n
t
 
f
i
l
t
]
)
)
,
 
(
h
v
,
 
.
i
n
r
 
(
1
0
,
 
[
.
i
n
t
 
(
n
I
 
r
v
)
,
 
.
r
e
f
 
h
u
s
e
r
,
 
.
r
e
f
 
h
o
w
n
e
r
,
 
.
r
e
f
 
h
t
r
i
e
d
,
 
.
r
e
f
 
h
i
d
e
n
t
,
 
.
r
e
f
 
h
t
a
p
e
,
 
.
i
n
t
 
g
i
v
e
n
,
 
.
r
e
f
 
h
s
e
c
r
e
t
,
 
.
r
e
f
 
q
e
n
t
,
 
.
r
e
f
 
h
n
o
e
,
 
.
i
n
t
 
p
e
r
m
,
 
.
i
n
t
 
p
l
a
i
n
]
)
)
,
 
(
h
t
a
p
e
,
 
.
i
n
r
 
(
6
,
 
[
.
r
e
f
 
a
t
a
p
e
,
 
.
i
n
t
 
t
_
2
5
.
2
.
2
.
1
]
)
)
,
 
(
a
t
a
p
e
,
 
.
i
n
l
 
(
E
.
2
.
1
,
 
4
0
0
,
 
.
i
n
l
 
t
_
2
5
.
2
.
2
.
2
)
)
]
 
:
=
 
h
D
_
2
4


 
 
 
 
c
l
e
a
r
 
h
P
 
h
D
 
h
S


 
 
 
 
r
e
f
i
n
e
 
l
v
_
i
2
l
 
(
v
 
:
=
 
t
_
2
5
.
2
.
1
.
t
o
I
n
t
6
4
)
 
h
x
 
h
b
 
d
L
_
t
a
p
e
_
7
 
r
f
l
 
?
_


 
 
 
 
r
e
f
i
n
e
 
v
a
_
l
a
s
t
 
h
x
 
h
b
 
h
L
 
h
P
_
2
4
 
h
D
_
2
4
 
h
S
_
2
4
 
0
 
2
 
r
f
l
 
r
f
l
 
(
b
y
 
d
e
c
i
d
e
)
 
d
L
_
t
a
p
e
_
8
 
(
f
u
n
 
H
_
3
3
 
l
o
c
s
_
3
3
 
h
P
_
3
3
 
h
D
_
3
3
 
h
S
_
3
3
 
=
>
 
?
_
)


 
 
 
 
r
e
p
l
a
c
e
 
h
P
_
3
3
 
:
 
v
a
_
P
 
E
.
1
 
v
w
C
l
 
[
(
a
o
u
t
,
 
.
i
n
l
 
(
c
L
,
 
1
,
 
.
i
n
r
 
(
.
i
n
l
 
(
v
p
_
u
p
d
L
 
g
g
 
(
0
 
:
 
I
n
t
3
2
)
.
t
o
N
a
t
C
l
a
m
p
N
e
g
 
(
t
_
2
5
.
2
.
1
.
t
o
I
n
t
6
4
)
)
)
)
)
,
 
(
h
,
 
.
i
n
r
 
(
1
1
,
 
[
.
r
e
f
 
h
l
k
,
 
.
r
e
f
 
h
v
,
 
.
r
e
f
 
h
t
,
 
.
r
e
f
 
h
c
o
l
,
 
.
r
e
f
 
h
a
n
s
,
 
.
i
n
t
 
c
f
o
r
,
 
.
i
n
t
 
c
b
a
c
k
,
 
.
i
n
t
 
f
i
l
t
]
)
)
,
 
(
h
v
,
 
.
i
n
r
 
(
1
0
,
 
[
.
i
n
t
 
(
n
I
 
r
v
)
,
 
.
r
e
f
 
h
u
s
e
r
,
 
.
r
e
f
 
h
o
w
n
e
r
,
 
.
r
e
f
 
h
t
r
i
e
d
,
 
.
r
e
f
 
h
i
d
e
n
t
,
 
.
r
e
f
 
h
t
a
p
e
,
 
.
i
n
t
 
g
i
v
e
n
,
 
.
r
e
f
 
h
s
e
c
r
e
t
,
 
.
r
e
f
 
q
e
n
t
,
 
.
r
e
f
 
h
n
o
e
,
 
.
i
n
t
 
p
e
r
m
,
 
.
i
n
t
 
p
l
a
i
n
]
)
)
,
 
(
h
t
a
p
e
,
 
.
i
n
r
 
(
6
,
 
[
.
r
e
f
 
a
t
a
p
e
,
 
.
i
n
t
 
t
_
2
5
.
2
.
2
.
1
]
)
)
,
 
(
a
t
a
p
e
,
 
.
i
n
l
 
(
E
.
2
.
1
,
 
4
0
0
,
 
.
i
n
l
 
t
_
2
5
.
2
.
2
.
2
)
)
]
 
H
_
3
3
 
:
=
 
h
P
_
3
3


 
 
 
 
r
e
p
l
a
c
e
 
h
D
_
3
3
 
:
 
v
a
_
D
 
A
 
[
(
a
o
u
t
,
 
.
i
n
l
 
(
c
L
,
 
1
,
 
.
i
n
r
 
(
.
i
n
l
 
(
v
p
_
u
p
d
L
 
g
g
 
(
0
 
:
 
I
n
t
3
2
)
.
t
o
N
a
t
C
l
a
m
p
N
e
g
 
(
t
_
2
5
.
2
.
1
.
t
o
I
n
t
6
4
)
)
)
)
)
,
 
(
h
,
 
.
i
n
r
 
(
1
1
,
 
[
.
r
e
f
 
h
l
k
,
 
.
r
e
f
 
h
v
,
 
.
r
e
f
 
h
t
,
 
.
r
e
f
 
h
c
o
l
,
 
.
r
e
f
 
h
a
n
s
,
 
.
i
n
t
 
c
f
o
r
,
 
.
i
n
t
 
c
b
a
c
k
,
 
.
i
n
t
 
f
i
l
t
]
)
)
,
 
(
h
v
,
 
.
i
n
r
 
(
1
0
,
 
[
.
i
n
t
 
(
n
I
 
r
v
)
,
 
.
r
e
f
 
h
u
s
e
r
,
 
.
r
e
f
 
h
o
w
n
e
r
,
 
.
r
e
f
 
h
t
r
i
e
d
,
 
.
r
e
f
 
h
i
d
e
n
t
,
 
.
r
e
f
 
h
t
a
p
e
,
 
.
i
n
t
 
g
i
v
e
n
,
 
.
r
e
f
 
h
s
e
c
r
e
t
,
 
.
r
e
f
 
q
e
n
t
,
 
.
r
e
f
 
h
n
o
e
,
 
.
i
n
t
 
p
e
r
m
,
 
.
i
n
t
 
p
l
a
i
n
]
)
)
,
 
(
h
t
a
p
e
,
 
.
i
n
r
 
(
6
,
 
[
.
r
e
f
 
a
t
a
p
e
,
 
.
i
n
t
 
t
_
2
5
.
2
.
2
.
1
]
)
)
,
 
(
a
t
a
p
e
,
 
.
i
n
l
 
(
E
.
2
.
1
,
 
4
0
0
,
 
.
i
n
l
 
t
_
2
5
.
2
.
2
.
2
)
)
]
 
:
=
 
h
D
_
3
3


 
 
 
 
c
l
e
a
r
 
h
P
_
2
4
 
h
D
_
2
4
 
h
S
_
2
4


 
 
 
 
r
e
f
i
n
e
 
l
v
_
g
o
t
o
 
(
t
g
t
 
:
=
 
1
5
)
 
h
x
 
h
b
 
d
L
_
t
a
p
e
_
9
 
(
b
y
 
d
e
c
i
d
e
)
 
?
_


 
 
 
 
r
e
f
i
n
e
 
l
v
_
i
c
o
n
s
t
 
(
v
 
:
=
 
0
)
 
h
x
 
h
b
 
d
L
_
t
a
p
e
_
1
5
 
(
b
y
 
d
e
c
i
d
e
)
 
?
_


 
 
 
 
r
e
f
i
n
e
 
v
x
_
r
e
t
 
?
_


 
 
 
 
h
a
v
e
 
h
p
o
s
t
 
:
 
(
(
0
,
 
(
t
_
2
5
.
2
.
2
,
 
(
v
p
_
u
p
d
L
 
g
g
 
(
0
 
:
 
I
n
t
3
2
)
.
t
o
N
a
t
C
l
a
m
p
N
e
g
 
(
t
_
2
5
.
2
.
1
.
t
o
I
n
t
6
4
)
)
)
)
 
:
 
I
n
t
3
2
 
×
 
(
g
R
o
w
 
×
 
(
N
a
t
 
→
 
I
n
t
6
4
)
)
)
 
=
 
F
_
L
_
t
a
p
e
_
e
 
X
t
a
p
e
 
g
g
 
v
w
 
:
=
 
(
s
h
o
w
 
F
_
L
_
t
a
p
e
_
e
 
X
t
a
p
e
 
g
g
 
v
w
 
=
 
(
(
0
,
 
(
t
_
2
5
.
2
.
2
,
 
(
v
p
_
u
p
d
L
 
g
g
 
(
0
 
:
 
I
n
t
3
2
)
.
t
o
N
a
t
C
l
a
m
p
N
e
g
 
(
t
_
2
5
.
2
.
1
.
t
o
I
n
t
6
4
)
)
)
)
 
:
 
I
n
t
3
2
 
×
 
(
g
R
o
w
 
×
 
(
N
a
t
 
→
 
I
n
t
6
4
)
)
)
 
f
r
o
m
 
(
g
L
e
t
_
e
q
 
h
t
_
2
5
 
(
(
i
f
_
p
o
s
 
c
_
3
1
)
.
t
r
a
n
s
 
r
f
l
)
)
)
.
s
y
m
m


 
 
 
 
h
a
v
e
 
h
P
9
 
:
=
 
h
P
_
3
3
.
s
u
b
 
(
w
s
'
 
:
=
 
[
(
h
,
 
.
i
n
r
 
(
1
1
,
 
[
.
r
e
f
 
h
l
k
,
 
.
r
e
f
 
h
v
,
 
.
r
e
f
 
h
t
,
 
.
r
e
f
 
h
c
o
l
,
 
.
r
e
f
 
h
a
n
s
,
 
.
i
n
t
 
c
f
o
r
,
 
.
i
n
t
 
c
b
a
c
k
,
 
.
i
n
t
 
f
i
l
t
]
)
)
,
 
(
h
v
,
 
.
i
n
r
 
(
1
0
,
 
[
.
i
n
t
 
(
n
I
 
r
v
)
,
 
.
r
e
f
 
h
u
s
e
r
,
 
.
r
e
f
 
h
o
w
n
e
r
,
 
.
r
e
f
 
h
t
r
i
e
d
,
 
.
r
e
f
 
h
i
d
e
n
t
,
 
.
r
e
f
 
h
t
a
p
e
,
 
.
i
n
t
 
g
i
v
e
n
,
 
.
r
e
f
 
h
s
e
c
r
e
t
,
 
.
r
e
f
 
q
e
n
t
,
 
.
r
e
f
 
h
n
o
e
,
 
.
i
n
t
 
p
e
r
m
,
 
.
i
n
t
 
p
l
a
i
n
]
)
)
,
 
(
h
t
a
p
e
,
 
.
i
n
r
 
(
6
,
 
[
.
r
e
f
 
a
t
a
p
e
,
 
.
i
n
t
 
t
_
2
5
.
2
.
2
.
1
]
)
)
,
 
(
a
t
a
p
e
,
 
.
i
n
l
 
(
E
.
2
.
1
,
 
4
0
0
,
 
.
i
n
l
 
t
_
2
5
.
2
.
2
.
2
)
)
,
 
(
a
o
u
t
,
 
.
i
n
l
 
(
c
L
,
 
1
,
 
.
i
n
r
 
(
.
i
n
l
 
(
v
p
_
u
p
d
L
 
g
g
 
(
0
 
:
 
I
n
t
3
2
)
.
t
o
N
a
t
C
l
a
m
p
N
e
g
 
(
t
_
2
5
.
2
.
1
.
t
o
I
n
t
6
4
)
)
)
)
)
]
)
 
[
1
,
 
2
,
 
3
,
 
4
,
 
0
]
 
r
f
l


 
 
 
 
h
a
v
e
 
h
D
9
 
:
=
 
h
D
_
3
3
.
s
u
b
 
(
w
s
'
 
:
=
 
[
(
h
,
 
.
i
n
r
 
(
1
1
,
 
[
.
r
e
f
 
h
l
k
,
 
.
r
e
f
 
h
v
,
 
.
r
e
f
 
h
t
,
 
.
r
e
f
 
h
c
o
l
,
 
.
r
e
f
 
h
a
n
s
,
 
.
i
n
t
 
c
f
o
r
,
 
.
i
n
t
 
c
b
a
c
k
,
 
.
i
n
t
 
f
i
l
t
]
)
)
,
 
(
h
v
,
 
.
i
n
r
 
(
1
0
,
 
[
.
i
n
t
 
(
n
I
 
r
v
)
,
 
.
r
e
f
 
h
u
s
e
r
,
 
.
r
e
f
 
h
o
w
n
e
r
,
 
.
r
e
f
 
h
t
r
i
e
d
,
 
.
r
e
f
 
h
i
d
e
n
t
,
 
.
r
e
f
 
h
t
a
p
e
,
 
.
i
n
t
 
g
i
v
e
n
,
 
.
r
e
f
 
h
s
e
c
r
e
t
,
 
.
r
e
f
 
q
e
n
t
,
 
.
r
e
f
 
h
n
o
e
,
 
.
i
n
t
 
p
e
r
m
,
 
.
i
n
t
 
p
l
a
i
n
]
)
)
,
 
(
h
t
a
p
e
,
 
.
i
n
r
 
(
6
,
 
[
.
r
e
f
 
a
t
a
p
e
,
 
.
i
n
t
 
t
_
2
5
.
2
.
2
.
1
]
)
)
,
 
(
a
t
a
p
e
,
 
.
i
n
l
 
(
E
.
2
.
1
,
 
4
0
0
,
 
.
i
n
l
 
t
_
2
5
.
2
.
2
.
2
)
)
,
 
(
a
o
u
t
,
 
.
i
n
l
 
(
c
L
,
 
1
,
 
.
i
n
r
 
(
.
i
n
l
 
(
v
p
_
u
p
d
L
 
g
g
 
(
0
 
:
 
I
n
t
3
2
)
.
t
o
N
a
t
C
l
a
m
p
N
e
g
 
(
t
_
2
5
.
2
.
1
.
t
o
I
n
t
6
4
)
)
)
)
)
]
)
 
[
1
,
 
2
,
 
3
,
 
4
,
 
0
]
 
(
b
y
 
d
e
c
i
d
e
)
 
r
f
l


 
 
 
 
e
x
a
c
t
 
W
.
i
r
e
t
 
(
v
 
:
=
 
0
)
 
h
x
 
h
b
 
h
r
 
(
f
u
n
 
t
 
h
t
 
h
W
 
=
>
 
⟨
⟨
0
,
 
(
t
_
2
5
.
2
.
2
,
 
(
v
p
_
u
p
d
L
 
g
g
 
(
0
 
:
 
I
n
t
3
2
)
.
t
o
N
a
t
C
l
a
m
p
N
e
g
 
(
t
_
2
5
.
2
.
1
.
t
o
I
n
t
6
4
)
)
)
,
 
r
f
l
,
 
⟨
c
o
n
g
r
A
r
g
 
P
r
o
d
.
f
s
t
 
h
p
o
s
t
,
 
c
o
n
g
r
A
r
g
 
P
r
o
d
.
s
n
d
 
h
p
o
s
t
⟩
,
 
b
y
 
r
w
 
[
h
t
]
;
 
e
x
a
c
t
 
h
P
9
,
 
h
D
9
⟩
,
 
h
S
_
3
3
.
F
 
h
t
⟩
)
 
h
S
_
3
3
.
2
.
2
 
d
L
_
t
a
p
e
_
1
6


s
e
t
_
o
p
t
i
o
n
 
m
a
x
H
e
a
r
t
b
e
a
t
s
 
4
0
0
0
0
0
0
 
i
n


s
e
t
_
o
p
t
i
o
n
 
m
a
x
R
e
c
D
e
p
t
h
 
1
0
0
0
0
0
 
i
n


t
h
e
o
r
e
m
 
k
_
L
_
m
a
k
e
_
e
 
(
E
 
:
 
g
E
)
 
(
s
a
 
:
 
N
a
t
 
→
 
N
a
t
)
 
(
c
L
 
:
 
C
l
a
s
s
I
d
)
 
(
l
 
:
 
L
a
u
n
c
h
)
 
(
h
s
t
 
:
 
l
.
s
t
a
c
k
T
r
a
c
e
s
 
=
 
f
a
l
s
e
)
 
(
h
 
a
o
u
t
 
h
l
k
 
h
v
 
h
t
 
h
c
o
l
 
h
a
n
s
 
h
p
a
d
 
h
c
h
k
 
h
u
s
e
r
 
h
o
w
n
e
r
 
h
t
r
i
e
d
 
h
i
d
e
n
t
 
h
t
a
p
e
 
h
s
e
c
r
e
t
 
q
e
n
t
 
h
n
o
e
 
a
u
s
e
r
 
a
o
w
n
e
r
 
a
i
d
e
n
t
 
a
t
a
p
e
 
a
s
e
c
r
e
t
 
h
e
0
 
h
e
1
 
a
e
0
 
a
e
1
 
h
s
m
 
h
g
r
 
h
s
r
 
h
b
l
 
h
t
e
x
t
 
h
s
u
m
 
q
b
s
m
 
q
s
s
m
 
q
m
s
r
 
a
t
e
x
t
 
a
s
u
m
 
a
p
a
d
 
a
c
o
l
 
:
 
N
a
t
)
 
(
r
v
 
:
 
N
a
t
)
 
(
c
f
o
r
 
:
 
I
n
t
3
2
)
 
(
c
b
a
c
k
 
:
 
I
n
t
3
2
)
 
(
f
i
l
t
 
:
 
I
n
t
3
2
)
 
(
g
i
v
e
n
 
:
 
I
n
t
3
2
)
 
(
p
e
r
m
 
:
 
I
n
t
3
2
)
 
(
p
l
a
i
n
 
:
 
I
n
t
3
2
)
 
(
X
u
s
e
r
 
:
 
g
R
o
w
)
 
(
X
o
w
n
e
r
 
:
 
g
R
o
w
)
 
(
X
i
d
e
n
t
 
:
 
g
R
o
w
)
 
(
X
t
a
p
e
 
:
 
g
R
o
w
)
 
(
X
s
e
c
r
e
t
 
:
 
g
R
o
w
)
 
(
X
e
0
 
:
 
g
R
o
w
)
 
(
X
e
1
 
:
 
g
R
o
w
)
 
(
b
k
s
m
 
:
 
N
a
t
 
→
 
I
n
t
3
2
)
 
(
s
t
s
m
 
:
 
N
a
t
 
→
 
I
n
t
3
2
)
 
(
m
x
s
r
 
:
 
N
a
t
 
→
 
I
n
t
3
2
)
 
(
X
t
e
x
t
 
:
 
g
R
o
w
)
 
(
X
s
u
m
 
:
 
g
R
o
w
)
 
(
X
p
a
d
 
:
 
g
R
o
w
)
 
(
X
c
o
l
 
:
 
g
R
o
w
)
 
(
g
g
 
:
 
N
a
t
 
→
 
I
n
t
6
4
)
 
(
v
p
 
:
 
I
n
t
3
2
)
 
(
h
2
r
v
 
:
 
2
 
≤
 
r
v
 
∧
 
r
v
 
≤
 
4
)
 
:
 
g
H
i
 
E
 
s
a
 
c
L
 
l
 
y
L
_
m
a
k
e
 
w
s
L
_
m
a
k
e
 
(
{
 
f
r
a
m
e
s
 
:
=
 
7
,
 
c
e
l
l
s
 
:
=
 
1
,
 
s
l
o
t
s
 
:
=
 
6
,
 
l
o
c
a
l
s
 
:
=
 
1
6
2
 
}
)
 
1
 
6
 
[
.
r
e
f
 
h
,
 
.
i
n
t
 
v
p
,
 
.
r
e
f
 
a
o
u
t
]
 
[
(
h
,
 
.
i
n
r
 
(
1
1
,
 
[
.
r
e
f
 
h
l
k
,
 
.
r
e
f
 
h
v
,
 
.
r
e
f
 
h
t
,
 
.
r
e
f
 
h
c
o
l
,
 
.
r
e
f
 
h
a
n
s
,
 
.
i
n
t
 
c
f
o
r
,
 
.
i
n
t
 
c
b
a
c
k
,
 
.
i
n
t
 
f
i
l
t
]
)
)
,
 
(
h
l
k
,
 
.
i
n
r
 
(
3
,
 
[
.
r
e
f
 
h
v
,
 
.
r
e
f
 
h
t
,
 
.
r
e
f
 
h
p
a
d
,
 
.
r
e
f
 
h
c
h
k
]
)
)
,
 
(
h
v
,
 
.
i
n
r
 
(
1
0
,
 
[
.
i
n
t
 
(
n
I
 
r
v
)
,
 
.
r
e
f
 
h
u
s
e
r
,
 
.
r
e
f
 
h
o
w
n
e
r
,
 
.
r
e
f
 
h
t
r
i
e
d
,
 
.
r
e
f
 
h
i
d
e
n
t
,
 
.
r
e
f
 
h
t
a
p
e
,
 
.
i
n
t
 
g
i
v
e
n
,
 
.
r
e
f
 
h
s
e
c
r
e
t
,
 
.
r
e
f
 
q
e
n
t
,
 
.
r
e
f
 
h
n
o
e
,
 
.
i
n
t
 
p
e
r
m
,
 
.
i
n
t
 
p
l
a
i
n
]
)
)
,
 
(
h
u
s
e
r
,
 
.
i
n
r
 
(
6
,
 
[
.
r
e
f
 
a
u
s
e
r
,
 
.
i
n
t
 
X
u
s
e
r
.
1
]
)
)
,
 
(
a
u
s
e
r
,
 
.
i
n
l
 
(
E
.
2
.
1
,
 
1
2
7
,
 
.
i
n
l
 
X
u
s
e
r
.
2
)
)
,
 
(
h
o
w
n
e
r
,
 
.
i
n
r
 
(
6
,
 
[
.
r
e
f
 
a
o
w
n
e
r
,
 
.
i
n
t
 
X
o
w
n
e
r
.
1
]
)
)
,
 
(
a
o
w
n
e
r
,
 
.
i
n
l
 
(
E
.
2
.
1
,
 
1
2
7
,
 
.
i
n
l
 
X
o
w
n
e
r
.
2
)
)
,
 
(
h
i
d
e
n
t
,
 
.
i
n
r
 
(
6
,
 
[
.
r
e
f
 
a
i
d
e
n
t
,
 
.
i
n
t
 
X
i
d
e
n
t
.
1
]
)
)
,
 
(
a
i
d
e
n
t
,
 
.
i
n
l
 
(
E
.
2
.
1
,
 
3
2
,
 
.
i
n
l
 
X
i
d
e
n
t
.
2
)
)
,
 
(
h
t
a
p
e
,
 
.
i
n
r
 
(
6
,
 
[
.
r
e
f
 
a
t
a
p
e
,
 
.
i
n
t
 
X
t
a
p
e
.
1
]
)
)
,
 
(
h
s
e
c
r
e
t
,
 
.
i
n
r
 
(
6
,
 
[
.
r
e
f
 
a
s
e
c
r
e
t
,
 
.
i
n
t
 
X
s
e
c
r
e
t
.
1
]
)
)
,
 
(
q
e
n
t
,
 
.
i
n
l
 
(
E
.
2
.
2
.
1
,
 
2
,
 
.
i
n
r
 
(
.
i
n
r
 
(
.
i
n
r
 
(
.
i
n
r
 
(
g
E
n
t
 
[
h
e
0
,
 
h
e
1
]
)
)
)
)
)
)
,
 
(
h
e
0
,
 
.
i
n
r
 
(
6
,
 
[
.
r
e
f
 
a
e
0
,
 
.
i
n
t
 
X
e
0
.
1
]
)
)
,
 
(
a
e
0
,
 
.
i
n
l
 
(
E
.
2
.
1
,
 
4
8
,
 
.
i
n
l
 
X
e
0
.
2
)
)
,
 
(
h
e
1
,
 
.
i
n
r
 
(
6
,
 
[
.
r
e
f
 
a
e
1
,
 
.
i
n
t
 
X
e
1
.
1
]
)
)
,
 
(
a
e
1
,
 
.
i
n
l
 
(
E
.
2
.
1
,
 
4
8
,
 
.
i
n
l
 
X
e
1
.
2
)
)
,
 
(
h
t
,
 
.
i
n
r
 
(
9
,
 
[
.
r
e
f
 
h
s
m
,
 
.
r
e
f
 
h
g
r
,
 
.
r
e
f
 
h
s
r
,
 
.
r
e
f
 
h
b
l
,
 
.
r
e
f
 
h
t
e
x
t
,
 
.
r
e
f
 
h
s
u
m
]
)
)
,
 
(
h
s
m
,
 
.
i
n
r
 
(
7
,
 
[
.
r
e
f
 
q
b
s
m
,
 
.
r
e
f
 
q
s
s
m
]
)
)
,
 
(
q
b
s
m
,
 
.
i
n
l
 
(
E
.
2
.
1
,
 
1
6
,
 
.
i
n
l
 
b
k
s
m
)
)
,
 
(
q
s
s
m
,
 
.
i
n
l
 
(
E
.
2
.
1
,
 
4
,
 
.
i
n
l
 
s
t
s
m
)
)
,
 
(
h
s
r
,
 
.
i
n
r
 
(
8
,
 
[
.
r
e
f
 
q
m
s
r
]
)
)
,
 
(
q
m
s
r
,
 
.
i
n
l
 
(
E
.
2
.
1
,
 
2
5
6
,
 
.
i
n
l
 
m
x
s
r
)
)
,
 
(
h
t
e
x
t
,
 
.
i
n
r
 
(
6
,
 
[
.
r
e
f
 
a
t
e
x
t
,
 
.
i
n
t
 
X
t
e
x
t
.
1
]
)
)
,
 
(
a
t
e
x
t
,
 
.
i
n
l
 
(
E
.
2
.
1
,
 
4
3
2
,
 
.
i
n
l
 
X
t
e
x
t
.
2
)
)
,
 
(
h
s
u
m
,
 
.
i
n
r
 
(
6
,
 
[
.
r
e
f
 
a
s
u
m
,
 
.
i
n
t
 
X
s
u
m
.
1
]
)
)
,
 
(
a
s
u
m
,
 
.
i
n
l
 
(
E
.
2
.
1
,
 
3
2
,
 
.
i
n
l
 
X
s
u
m
.
2
)
)
,
 
(
h
p
a
d
,
 
.
i
n
r
 
(
6
,
 
[
.
r
e
f
 
a
p
a
d
,
 
.
i
n
t
 
X
p
a
d
.
1
]
)
)
,
 
(
a
p
a
d
,
 
.
i
n
l
 
(
E
.
2
.
1
,
 
3
2
,
 
.
i
n
l
 
X
p
a
d
.
2
)
)
,
 
(
h
c
o
l
,
 
.
i
n
r
 
(
6
,
 
[
.
r
e
f
 
a
c
o
l
,
 
.
i
n
t
 
X
c
o
l
.
1
]
)
)
,
 
(
a
o
u
t
,
 
.
i
n
l
 
(
c
L
,
 
1
,
 
.
i
n
r
 
(
.
i
n
l
 
g
g
)
)
)
]
 
(
f
u
n
 
(
r
r
 
:
 
I
n
t
3
2
)
 
(
u
u
 
:
 
I
n
t
3
2
 
×
 
g
R
o
w
 
×
 
g
R
o
w
 
×
 
g
R
o
w
 
×
 
(
N
a
t
 
→
 
I
n
t
3
2
)
 
×
 
(
N
a
t
 
→
 
I
n
t
3
2
)
 
×
 
(
N
a
t
 
→
 
I
n
t
3
2
)
 
×
 
g
R
o
w
 
×
 
g
R
o
w
 
×
 
g
R
o
w
 
×
 
g
R
o
w
 
×
 
(
N
a
t
 
→
 
I
n
t
6
4
)
)
 
=
>
 
r
r
 
=
 
(
F
_
L
_
m
a
k
e
_
e
 
r
v
 
g
i
v
e
n
 
p
e
r
m
 
p
l
a
i
n
 
X
u
s
e
r
 
X
o
w
n
e
r
 
X
i
d
e
n
t
 
X
t
a
p
e
 
X
s
e
c
r
e
t
 
X
e
0
 
X
e
1
 
b
k
s
m
 
s
t
s
m
 
m
x
s
r
 
X
t
e
x
t
 
X
s
u
m
 
X
p
a
d
 
X
c
o
l
 
g
g
 
v
p
)
.
1
 
∧
 
u
u
 
=
 
(
F
_
L
_
m
a
k
e
_
e
 
r
v
 
g
i
v
e
n
 
p
e
r
m
 
p
l
a
i
n
 
X
u
s
e
r
 
X
o
w
n
e
r
 
X
i
d
e
n
t
 
X
t
a
p
e
 
X
s
e
c
r
e
t
 
X
e
0
 
X
e
1
 
b
k
s
m
 
s
t
s
m
 
m
x
s
r
 
X
t
e
x
t
 
X
s
u
m
 
X
p
a
d
 
X
c
o
l
 
g
g
 
v
p
)
.
2
)
 
(
f
u
n
 
(
u
u
 
:
 
I
n
t
3
2
 
×
 
g
R
o
w
 
×
 
g
R
o
w
 
×
 
g
R
o
w
 
×
 
(
N
a
t
 
→
 
I
n
t
3
2
)
 
×
 
(
N
a
t
 
→
 
I
n
t
3
2
)
 
×
 
(
N
a
t
 
→
 
I
n
t
3
2
)
 
×
 
g
R
o
w
 
×
 
g
R
o
w
 
×
 
g
R
o
w
 
×
 
g
R
o
w
 
×
 
(
N
a
t
 
→
 
I
n
t
6
4
)
)
 
=
>
 
[
(
h
,
 
.
i
n
r
 
(
1
1
,
 
[
.
r
e
f
 
h
l
k
,
 
.
r
e
f
 
h
v
,
 
.
r
e
f
 
h
t
,
 
.
r
e
f
 
h
c
o
l
,
 
.
r
e
f
 
h
a
n
s
,
 
.
i
n
t
 
c
f
o
r
,
 
.
i
n
t
 
c
b
a
c
k
,
 
.
i
n
t
 
f
i
l
t
]
)
)
,
 
(
h
l
k
,
 
.
i
n
r
 
(
3
,
 
[
.
r
e
f
 
h
v
,
 
.
r
e
f
 
h
t
,
 
.
r
e
f
 
h
p
a
d
,
 
.
r
e
f
 
h
c
h
k
]
)
)
,
 
(
h
v
,
 
.
i
n
r
 
(
1
0
,
 
[
.
i
n
t
 
(
n
I
 
r
v
)
,
 
.
r
e
f
 
h
u
s
e
r
,
 
.
r
e
f
 
h
o
w
n
e
r
,
 
.
r
e
f
 
h
t
r
i
e
d
,
 
.
r
e
f
 
h
i
d
e
n
t
,
 
.
r
e
f
 
h
t
a
p
e
,
 
.
i
n
t
 
g
i
v
e
n
,
 
.
r
e
f
 
h
s
e
c
r
e
t
,
 
.
r
e
f
 
q
e
n
t
,
 
.
r
e
f
 
h
n
o
e
,
 
.
i
n
t
 
u
u
.
1
,
 
.
i
n
t
 
p
l
a
i
n
]
)
)
,
 
(
h
u
s
e
r
,
 
.
i
n
r
 
(
6
,
 
[
.
r
e
f
 
a
u
s
e
r
,
 
.
i
n
t
 
X
u
s
e
r
.
1
]
)
)
,
 
(
a
u
s
e
r
,
 
.
i
n
l
 
(
E
.
2
.
1
,
 
1
2
7
,
 
.
i
n
l
 
X
u
s
e
r
.
2
)
)
,
 
(
h
o
w
n
e
r
,
 
.
i
n
r
 
(
6
,
 
[
.
r
e
f
 
a
o
w
n
e
r
,
 
.
i
n
t
 
X
o
w
n
e
r
.
1
]
)
)
,
 
(
a
o
w
n
e
r
,
 
.
i
n
l
 
(
E
.
2
.
1
,
 
1
2
7
,
 
.
i
n
l
 
X
o
w
n
e
r
.
2
)
)
,
 
(
h
i
d
e
n
t
,
 
.
i
n
r
 
(
6
,
 
[
.
r
e
f
 
a
i
d
e
n
t
,
 
.
i
n
t
 
X
i
d
e
n
t
.
1
]
)
)
,
 
(
a
i
d
e
n
t
,
 
.
i
n
l
 
(
E
.
2
.
1
,
 
3
2
,
 
.
i
n
l
 
X
i
d
e
n
t
.
2
)
)
,
 
(
h
t
a
p
e
,
 
.
i
n
r
 
(
6
,
 
[
.
r
e
f
 
a
t
a
p
e
,
 
.
i
n
t
 
X
t
a
p
e
.
1
]
)
)
,
 
(
h
s
e
c
r
e
t
,
 
.
i
n
r
 
(
6
,
 
[
.
r
e
f
 
a
s
e
c
r
e
t
,
 
.
i
n
t
 
u
u
.
2
.
1
.
1
]
)
)
,
 
(
q
e
n
t
,
 
.
i
n
l
 
(
E
.
2
.
2
.
1
,
 
2
,
 
.
i
n
r
 
(
.
i
n
r
 
(
.
i
n
r
 
(
.
i
n
r
 
(
g
E
n
t
 
[
h
e
0
,
 
h
e
1
]
)
)
)
)
)
)
,
 
(
h
e
0
,
 
.
i
n
r
 
(
6
,
 
[
.
r
e
f
 
a
e
0
,
 
.
i
n
t
 
u
u
.
2
.
2
.
1
.
1
]
)
)
,
 
(
a
e
0
,
 
.
i
n
l
 
(
E
.
2
.
1
,
 
4
8
,
 
.
i
n
l
 
u
u
.
2
.
2
.
1
.
2
)
)
,
 
(
h
e
1
,
 
.
i
n
r
 
(
6
,
 
[
.
r
e
f
 
a
e
1
,
 
.
i
n
t
 
u
u
.
2
.
2
.
2
.
1
.
1
]
)
)
,
 
(
a
e
1
,
 
.
i
n
l
 
(
E
.
2
.
1
,
 
4
8
,
 
.
i
n
l
 
u
u
.
2
.
2
.
2
.
1
.
2
)
)
,
 
(
h
t
,
 
.
i
n
r
 
(
9
,
 
[
.
r
e
f
 
h
s
m
,
 
.
r
e
f
 
h
g
r
,
 
.
r
e
f
 
h
s
r
,
 
.
r
e
f
 
h
b
l
,
 
.
r
e
f
 
h
t
e
x
t
,
 
.
r
e
f
 
h
s
u
m
]
)
)
,
 
(
h
s
m
,
 
.
i
n
r
 
(
7
,
 
[
.
r
e
f
 
q
b
s
m
,
 
.
r
e
f
 
q
s
s
m
]
)
)
,
 
(
q
b
s
m
,
 
.
i
n
l
 
(
E
.
2
.
1
,
 
1
6
,
 
.
i
n
l
 
u
u
.
2
.
2
.
2
.
2
.
1
)
)
,
 
(
q
s
s
m
,
 
.
i
n
l
 
(
E
.
2
.
1
,
 
4
,
 
.
i
n
l
 
u
u
.
2
.
2
.
2
.
2
.
2
.
1
)
)
,
 
(
h
s
r
,
 
.
i
n
r
 
(
8
,
 
[
.
r
e
f
 
q
m
s
r
]
)
)
,
 
(
q
m
s
r
,
 
.
i
n
l
 
(
E
.
2
.
1
,
 
2
5
6
,
 
.
i
n
l
 
u
u
.
2
.
2
.
2
.
2
.
2
.
2
.
1
)
)
,
 
(
h
t
e
x
t
,
 
.
i
n
r
 
(
6
,
 
[
.
r
e
f
 
a
t
e
x
t
,
 
.
i
n
t
 
u
u
.
2
.
2
.
2
.
2
.
2
.
2
.
2
.
1
.
1
]
)
)
,
 
(
a
t
e
x
t
,
 
.
i
n
l
 
(
E
.
2
.
1
,
 
4
3
2
,
 
.
i
n
l
 
u
u
.
2
.
2
.
2
.
2
.
2
.
2
.
2
.
1
.
2
)
)
,
 
(
h
s
u
m
,
 
.
i
n
r
 
(
6
,
 
[
.
r
e
f
 
a
s
u
m
,
 
.
i
n
t
 
u
u
.
2
.
2
.
2
.
2
.
2
.
2
.
2
.
2
.
1
.
1
]
)
)
,
 
(
a
s
u
m
,
 
.
i
n
l
 
(
E
.
2
.
1
,
 
3
2
,
 
.
i
n
l
 
u
u
.
2
.
2
.
2
.
2
.
2
.
2
.
2
.
2
.
1
.
2
)
)
,
 
(
h
p
a
d
,
 
.
i
n
r
 
(
6
,
 
[
.
r
e
f
 
a
p
a
d
,
 
.
i
n
t
 
u
u
.
2
.
2
.
2
.
2
.
2
.
2
.
2
.
2
.
2
.
1
.
1
]
)
)
,
 
(
a
p
a
d
,
 
.
i
n
l
 
(
E
.
2
.
1
,
 
3
2
,
 
.
i
n
l
 
u
u
.
2
.
2
.
2
.
2
.
2
.
2
.
2
.
2
.
2
.
1
.
2
)
)
,
 
(
h
c
o
l
,
 
.
i
n
r
 
(
6
,
 
[
.
r
e
f
 
a
c
o
l
,
 
.
i
n
t
 
u
u
.
2
.
2
.
2
.
2
.
2
.
2
.
2
.
2
.
2
.
2
.
1
.
1
]
)
)
,
 
(
a
o
u
t
,
 
.
i
n
l
 
(
c
L
,
 
1
,
 
.
i
n
r
 
(
.
i
n
l
 
u
u
.
2
.
2
.
2
.
2
.
2
.
2
.
2
.
2
.
2
.
2
.
2
)
)
)
]
)
 
:
=
 
b
y


 
 
i
n
t
r
o
 
s
z


 
 
r
e
f
i
n
e
 
v
x
_
o
f
W
H
 
(
h
h
 
:
=
 
[
(
0
,
 
9
,
 
1
2
,
 
2
6
)
]
)
 
(
c
c
 
:
=
 
c
L
_
m
a
k
e
)
 
(
m
a
x
L
 
:
=
 
4
)
 
(
r
e
t
 
:
=
 
(
s
o
m
e
 
.
i
n
t
)
)
 
(
b
y
 
d
e
c
i
d
e
)
 
r
f
l
 
?
_


 
 
i
n
t
r
o
 
p
 
e
 
s
 
m
 
a
r
g
s
 
b
e
l
o
w
 
m
e
t
h
 
c
 
s
₁
 
B
 
h
m
l
 
h
v


 
 
o
b
t
a
i
n
 
⟨
r
f
l
,
 
h
s
z
,
 
h
P
,
 
⟨
h
V
,
 
h
X
,
 
h
L
⟩
,
 
h
D
0
⟩
 
:
=
 
h
v


 
 
h
a
v
e
 
h
x
 
:
=
 
B
.
e
x
e
c


 
 
h
a
v
e
 
h
b
 
:
=
 
B
.
b
y
t
e
s


 
 
h
a
v
e
 
h
r
 
:
=
 
B
.
r
e
t
u
r
n
s


 
 
h
a
v
e
 
h
t
s
 
:
=
 
a
t
o
m
s
_
s
p
e
c
 
(
w
s
 
:
=
 
w
s
L
_
m
a
k
e
)
 
B
.
p
r
e


 
 
h
a
v
e
 
h
o
w
n
 
:
 
s
.
v
m
.
f
i
n
d
C
l
a
s
s
 
R
L
 
=
 
s
o
m
e
 
m
.
c
l
s
 
:
=
 
f
i
n
d
C
l
a
s
s
_
o
f
_
m
e
t
h
o
d
N
a
m
e
d
 
B
.
n
a
m
e
d


 
 
h
a
v
e
 
h
l
o
c
k
s
 
:
=
 
B
.
n
o
t
S
y
n
c
h
r
o
n
i
z
e
d


 
 
h
a
v
e
 
h
t
a
b
 
:
=
 
v
x
_
t
a
b
l
e
 
B
 
(
h
t
s
 
(
.
c
o
d
e
W
i
t
h
 
y
L
_
m
a
k
e
 
c
L
_
m
a
k
e
 
4
 
(
s
o
m
e
 
.
i
n
t
)
 
[
(
0
,
 
9
,
 
1
2
,
 
2
6
)
]
)
 
(
b
y
 
d
e
c
i
d
e
 
+
k
e
r
n
e
l
)
)


 
 
s
u
b
s
t
 
h
s
z


 
 
h
a
v
e
 
h
D
 
:
=
 
h
D
0
.
s
e
l
f
 
(
s
z
 
:
=
 
s
.
h
e
a
p
.
s
i
z
e
)


 
 
c
l
e
a
r
 
h
D
0


 
 
g
e
n
e
r
a
l
i
z
e
 
h
A
e
 
:
 
v
a
_
A
 
[
(
h
,
 
.
i
n
r
 
(
1
1
,
 
[
.
r
e
f
 
h
l
k
,
 
.
r
e
f
 
h
v
,
 
.
r
e
f
 
h
t
,
 
.
r
e
f
 
h
c
o
l
,
 
.
r
e
f
 
h
a
n
s
,
 
.
i
n
t
 
c
f
o
r
,
 
.
i
n
t
 
c
b
a
c
k
,
 
.
i
n
t
 
f
i
l
t
]
)
)
,
 
(
h
l
k
,
 
.
i
n
r
 
(
3
,
 
[
.
r
e
f
 
h
v
,
 
.
r
e
f
 
h
t
,
 
.
r
e
f
 
h
p
a
d
,
 
.
r
e
f
 
h
c
h
k
]
)
)
,
 
(
h
v
,
 
.
i
n
r
 
(
1
0
,
 
[
.
i
n
t
 
(
n
I
 
r
v
)
,
 
.
r
e
f
 
h
u
s
e
r
,
 
.
r
e
f
 
h
o
w
n
e
r
,
 
.
r
e
f
 
h
t
r
i
e
d
,
 
.
r
e
f
 
h
i
d
e
n
t
,
 
.
r
e
f
 
h
t
a
p
e
,
 
.
i
n
t
 
g
i
v
e
n
,
 
.
r
e
f
 
h
s
e
c
r
e
t
,
 
.
r
e
f
 
q
e
n
t
,
 
.
r
e
f
 
h
n
o
e
,
 
.
i
n
t
 
p
e
r
m
,
 
.
i
n
t
 
p
l
a
i
n
]
)
)
,
 
(
h
u
s
e
r
,
 
.
i
n
r
 
(
6
,
 
[
.
r
e
f
 
a
u
s
e
r
,
 
.
i
n
t
 
X
u
s
e
r
.
1
]
)
)
,
 
(
a
u
s
e
r
,
 
.
i
n
l
 
(
E
.
2
.
1
,
 
1
2
7
,
 
.
i
n
l
 
X
u
s
e
r
.
2
)
)
,
 
(
h
o
w
n
e
r
,
 
.
i
n
r
 
(
6
,
 
[
.
r
e
f
 
a
o
w
n
e
r
,
 
.
i
n
t
 
X
o
w
n
e
r
.
1
]
)
)
,
 
(
a
o
w
n
e
r
,
 
.
i
n
l
 
(
E
.
2
.
1
,
 
1
2
7
,
 
.
i
n
l
 
X
o
w
n
e
r
.
2
)
)
,
 
(
h
i
d
e
n
t
,
 
.
i
n
r
 
(
6
,
 
[
.
r
e
f
 
a
i
d
e
n
t
,
 
.
i
n
t
 
X
i
d
e
n
t
.
1
]
)
)
,
 
(
a
i
d
e
n
t
,
 
.
i
n
l
 
(
E
.
2
.
1
,
 
3
2
,
 
.
i
n
l
 
X
i
d
e
n
t
.
2
)
)
,
 
(
h
t
a
p
e
,
 
.
i
n
r
 
(
6
,
 
[
.
r
e
f
 
a
t
a
p
e
,
 
.
i
n
t
 
X
t
a
p
e
.
1
]
)
)
,
 
(
h
s
e
c
r
e
t
,
 
.
i
n
r
 
(
6
,
 
[
.
r
e
f
 
a
s
e
c
r
e
t
,
 
.
i
n
t
 
X
s
e
c
r
e
t
.
1
]
)
)
,
 
(
q
e
n
t
,
 
.
i
n
l
 
(
E
.
2
.
2
.
1
,
 
2
,
 
.
i
n
r
 
(
.
i
n
r
 
(
.
i
n
r
 
(
.
i
n
r
 
(
g
E
n
t
 
[
h
e
0
,
 
h
e
1
]
)
)
)
)
)
)
,
 
(
h
e
0
,
 
.
i
n
r
 
(
6
,
 
[
.
r
e
f
 
a
e
0
,
 
.
i
n
t
 
X
e
0
.
1
]
)
)
,
 
(
a
e
0
,
 
.
i
n
l
 
(
E
.
2
.
1
,
 
4
8
,
 
.
i
n
l
 
X
e
0
.
2
)
)
,
 
(
h
e
1
,
 
.
i
n
r
 
(
6
,
 
[
.
r
e
f
 
a
e
1
,
 
.
i
n
t
 
X
e
1
.
1
]
)
)
,
 
(
a
e
1
,
 
.
i
n
l
 
(
E
.
2
.
1
,
 
4
8
,
 
.
i
n
l
 
X
e
1
.
2
)
)
,
 
(
h
t
,
 
.
i
n
r
 
(
9
,
 
[
.
r
e
f
 
h
s
m
,
 
.
r
e
f
 
h
g
r
,
 
.
r
e
f
 
h
s
r
,
 
.
r
e
f
 
h
b
l
,
 
.
r
e
f
 
h
t
e
x
t
,
 
.
r
e
f
 
h
s
u
m
]
)
)
,
 
(
h
s
m
,
 
.
i
n
r
 
(
7
,
 
[
.
r
e
f
 
q
b
s
m
,
 
.
r
e
f
 
q
s
s
m
]
)
)
,
 
(
q
b
s
m
,
 
.
i
n
l
 
(
E
.
2
.
1
,
 
1
6
,
 
.
i
n
l
 
b
k
s
m
)
)
,
 
(
q
s
s
m
,
 
.
i
n
l
 
(
E
.
2
.
1
,
 
4
,
 
.
i
n
l
 
s
t
s
m
)
)
,
 
(
h
s
r
,
 
.
i
n
r
 
(
8
,
 
[
.
r
e
f
 
q
m
s
r
]
)
)
,
 
(
q
m
s
r
,
 
.
i
n
l
 
(
E
.
2
.
1
,
 
2
5
6
,
 
.
i
n
l
 
m
x
s
r
)
)
,
 
(
h
t
e
x
t
,
 
.
i
n
r
 
(
6
,
 
[
.
r
e
f
 
a
t
e
x
t
,
 
.
i
n
t
 
X
t
e
x
t
.
1
]
)
)
,
 
(
a
t
e
x
t
,
 
.
i
n
l
 
(
E
.
2
.
1
,
 
4
3
2
,
 
.
i
n
l
 
X
t
e
x
t
.
2
)
)
,
 
(
h
s
u
m
,
 
.
i
n
r
 
(
6
,
 
[
.
r
e
f
 
a
s
u
m
,
 
.
i
n
t
 
X
s
u
m
.
1
]
)
)
,
 
(
a
s
u
m
,
 
.
i
n
l
 
(
E
.
2
.
1
,
 
3
2
,
 
.
i
n
l
 
X
s
u
m
.
2
)
)
,
 
(
h
p
a
d
,
 
.
i
n
r
 
(
6
,
 
[
.
r
e
f
 
a
p
a
d
,
 
.
i
n
t
 
X
p
a
d
.
1
]
)
)
,
 
(
a
p
a
d
,
 
.
i
n
l
 
(
E
.
2
.
1
,
 
3
2
,
 
.
i
n
l
 
X
p
a
d
.
2
)
)
,
 
(
h
c
o
l
,
 
.
i
n
r
 
(
6
,
 
[
.
r
e
f
 
a
c
o
l
,
 
.
i
n
t
 
X
c
o
l
.
1
]
)
)
,
 
(
a
o
u
t
,
 
.
i
n
l
 
(
c
L
,
 
1
,
 
.
i
n
r
 
(
.
i
n
l
 
g
g
)
)
)
]
 
s
.
h
e
a
p
.
s
i
z
e
 
=
 
A
 
a
t
 
h
D
 
h
V
 
h
X
 
⊢


 
 
h
a
v
e
 
h
A
 
:
 
∀
 
q
 
:
 
N
a
t
,
 
s
.
h
e
a
p
.
s
i
z
e
 
≤
 
q
 
→
 
A
 
q
 
:
=
 
f
u
n
 
q
 
h
 
=
>
 
b
y
 
r
w
 
[
←
 
h
A
e
]
;
 
e
x
a
c
t
 
O
r
.
i
n
r
 
h


 
 
h
a
v
e
 
h
S
 
:
 
v
a
_
S
 
A
 
s
.
h
e
a
p
 
s
.
h
e
a
p
 
[
]
 
:
=
 
v
a
_
S
.
r
f


 
 
h
a
v
e
 
h
K
 
:
=
 
h
V
.
1


 
 
h
a
v
e
 
h
F
 
:
 
C
a
l
l
F
i
x
 
p
 
m
 
c
 
c
L
_
m
a
k
e
 
4
 
s
 
_
 
w
s
L
_
m
a
k
e
 
R
L
 
:
=
 
⟨
h
x
,
 
h
b
,
 
h
m
l
,
 
h
o
w
n
,
 
h
t
s
⟩


 
 
h
a
v
e
 
h
l
 
:
=
 
l
v
_
e
n
t
r
y
 
[
.
r
e
f
 
h
,
 
.
i
n
t
 
v
p
,
 
.
r
e
f
 
a
o
u
t
]
 
(
n
 
:
=
 
4
)
 
(
N
a
t
.
l
e
_
o
f
_
b
l
e
_
e
q
_
t
r
u
e
 
r
f
l
)


 
 
r
w
 
[
l
g
_
e
n
t
r
y
_
e
q
]


 
 
g
e
n
e
r
a
l
i
z
e
 
(
l
g
_
s
l
 
[
.
r
e
f
 
h
,
 
.
i
n
t
 
v
p
,
 
.
r
e
f
 
a
o
u
t
]
 
+
+
 
L
i
s
t
.
r
e
p
l
i
c
a
t
e
 
(
4
 
-
 
(
l
g
_
s
l
 
[
.
r
e
f
 
h
,
 
.
i
n
t
 
v
p
,
 
.
r
e
f
 
a
o
u
t
]
)
.
l
e
n
g
t
h
)
 
S
l
o
t
.
u
n
s
e
t
)
.
t
o
A
r
r
a
y
 
=
 
l
s
 
a
t
 
h
l
 
⊢


 
 
h
a
v
e
 
h
l
 
:
 
l
v
_
h
a
s
 
l
s
 
4
 
[
(
0
,
 
.
r
e
f
 
h
)
,
 
(
1
,
 
.
i
n
t
 
v
p
)
,
 
(
2
,
 
.
r
e
f
 
a
o
u
t
)
]
 
:
=
 
h
l


 
 
h
a
v
e
 
w
_
0
 
:
=
 
h
t
s
 
(
.
c
l
a
s
s
L
i
n
k
 
R
L
 
2
6
 
"
j
a
v
a
/
l
a
n
g
/
I
l
l
e
g
a
l
S
t
a
t
e
E
x
c
e
p
t
i
o
n
"
)
 
(
b
y
 
d
e
c
i
d
e
 
+
k
e
r
n
e
l
)


 
 
r
e
f
i
n
e
 
l
v
_
a
l
o
a
d
_
n
 
h
x
 
h
b
 
d
L
_
m
a
k
e
_
0
 
r
f
l
 
(
l
v
_
a
t
 
h
l
 
2
 
r
f
l
)
 
?
_


 
 
r
e
f
i
n
e
 
l
v
_
i
c
o
n
s
t
 
(
v
 
:
=
 
0
)
 
h
x
 
h
b
 
d
L
_
m
a
k
e
_
1
 
(
b
y
 
d
e
c
i
d
e
)
 
?
_


 
 
r
e
f
i
n
e
 
l
v
_
a
l
o
a
d
_
n
 
h
x
 
h
b
 
d
L
_
m
a
k
e
_
2
 
r
f
l
 
(
l
v
_
a
t
 
h
l
 
0
 
r
f
l
)
 
?
_


 
 
r
e
f
i
n
e
 
l
v
_
i
l
o
a
d
_
n
 
h
x
 
h
b
 
d
L
_
m
a
k
e
_
3
 
r
f
l
 
(
l
v
_
a
t
 
h
l
 
1
 
r
f
l
)
 
?
_


 
 
o
b
t
a
i
n
 
⟨
t
_
2
5
,
 
h
t
_
2
5
⟩
 
:
 
∃
 
t
9
 
:
 
N
a
t
 
×
 
(
I
n
t
3
2
 
×
 
(
I
n
t
3
2
 
×
 
g
R
o
w
 
×
 
g
R
o
w
 
×
 
g
R
o
w
 
×
 
(
N
a
t
 
→
 
I
n
t
3
2
)
 
×
 
(
N
a
t
 
→
 
I
n
t
3
2
)
 
×
 
(
N
a
t
 
→
 
I
n
t
3
2
)
 
×
 
g
R
o
w
 
×
 
g
R
o
w
 
×
 
g
R
o
w
 
×
 
g
R
o
w
)
)
,
 
t
9
 
=
 
F
_
X
1
0
_
m
a
k
e
_
e
 
r
v
 
g
i
v
e
n
 
p
e
r
m
 
p
l
a
i
n
 
X
u
s
e
r
 
X
o
w
n
e
r
 
X
i
d
e
n
t
 
X
t
a
p
e
 
X
s
e
c
r
e
t
 
X
e
0
 
X
e
1
 
b
k
s
m
 
s
t
s
m
 
m
x
s
r
 
X
t
e
x
t
 
X
s
u
m
 
X
p
a
d
 
X
c
o
l
 
v
p
 
:
=
 
⟨
_
,
 
r
f
l
⟩


 
 
r
e
f
i
n
e
 
g
T
V
i
 
h
F
 
h
l
 
h
V
 
h
X
 
h
P
 
h
D
 
h
S
 
h
A
 
[
0
,
 
1
,
 
2
,
 
3
,
 
4
,
 
5
,
 
6
,
 
7
,
 
8
,
 
9
,
 
1
0
,
 
1
1
,
 
1
2
,
 
1
3
,
 
1
4
,
 
1
5
,
 
1
6
,
 
1
7
,
 
1
8
,
 
1
9
,
 
2
0
,
 
2
1
,
 
2
2
,
 
2
3
,
 
2
4
,
 
2
5
,
 
2
6
,
 
2
7
,
 
2
8
]
 
[
2
9
]
 
(
w
c
 
:
=
 
[
(
h
,
 
.
i
n
r
 
(
1
1
,
 
[
.
r
e
f
 
h
l
k
,
 
.
r
e
f
 
h
v
,
 
.
r
e
f
 
h
t
,
 
.
r
e
f
 
h
c
o
l
,
 
.
r
e
f
 
h
a
n
s
,
 
.
i
n
t
 
c
f
o
r
,
 
.
i
n
t
 
c
b
a
c
k
,
 
.
i
n
t
 
f
i
l
t
]
)
)
,
 
(
h
l
k
,
 
.
i
n
r
 
(
3
,
 
[
.
r
e
f
 
h
v
,
 
.
r
e
f
 
h
t
,
 
.
r
e
f
 
h
p
a
d
,
 
.
r
e
f
 
h
c
h
k
]
)
)
,
 
(
h
v
,
 
.
i
n
r
 
(
1
0
,
 
[
.
i
n
t
 
(
n
I
 
r
v
)
,
 
.
r
e
f
 
h
u
s
e
r
,
 
.
r
e
f
 
h
o
w
n
e
r
,
 
.
r
e
f
 
h
t
r
i
e
d
,
 
.
r
e
f
 
h
i
d
e
n
t
,
 
.
r
e
f
 
h
t
a
p
e
,
 
.
i
n
t
 
g
i
v
e
n
,
 
.
r
e
f
 
h
s
e
c
r
e
t
,
 
.
r
e
f
 
q
e
n
t
,
 
.
r
e
f
 
h
n
o
e
,
 
.
i
n
t
 
p
e
r
m
,
 
.
i
n
t
 
p
l
a
i
n
]
)
)
,
 
(
h
u
s
e
r
,
 
.
i
n
r
 
(
6
,
 
[
.
r
e
f
 
a
u
s
e
r
,
 
.
i
n
t
 
X
u
s
e
r
.
1
]
)
)
,
 
(
a
u
s
e
r
,
 
.
i
n
l
 
(
E
.
2
.
1
,
 
1
2
7
,
 
.
i
n
l
 
X
u
s
e
r
.
2
)
)
,
 
(
h
o
w
n
e
r
,
 
.
i
n
r
 
(
6
,
 
[
.
r
e
f
 
a
o
w
n
e
r
,
 
.
i
n
t
 
X
o
w
n
e
r
.
1
]
)
)
,
 
(
a
o
w
n
e
r
,
 
.
i
n
l
 
(
E
.
2
.
1
,
 
1
2
7
,
 
.
i
n
l
 
X
o
w
n
e
r
.
2
)
)
,
 
(
h
i
d
e
n
t
,
 
.
i
n
r
 
(
6
,
 
[
.
r
e
f
 
a
i
d
e
n
t
,
 
.
i
n
t
 
X
i
d
e
n
t
.
1
]
)
)
,
 
(
a
i
d
e
n
t
,
 
.
i
n
l
 
(
E
.
2
.
1
,
 
3
2
,
 
.
i
n
l
 
X
i
d
e
n
t
.
2
)
)
,
 
(
h
t
a
p
e
,
 
.
i
n
r
 
(
6
,
 
[
.
r
e
f
 
a
t
a
p
e
,
 
.
i
n
t
 
X
t
a
p
e
.
1
]
)
)
,
 
(
h
s
e
c
r
e
t
,
 
.
i
n
r
 
(
6
,
 
[
.
r
e
f
 
a
s
e
c
r
e
t
,
 
.
i
n
t
 
X
s
e
c
r
e
t
.
1
]
)
)
,
 
(
q
e
n
t
,
 
.
i
n
l
 
(
E
.
2
.
2
.
1
,
 
2
,
 
.
i
n
r
 
(
.
i
n
r
 
(
.
i
n
r
 
(
.
i
n
r
 
(
g
E
n
t
 
[
h
e
0
,
 
h
e
1
]
)
)
)
)
)
)
,
 
(
h
e
0
,
 
.
i
n
r
 
(
6
,
 
[
.
r
e
f
 
a
e
0
,
 
.
i
n
t
 
X
e
0
.
1
]
)
)
,
 
(
a
e
0
,
 
.
i
n
l
 
(
E
.
2
.
1
,
 
4
8
,
 
.
i
n
l
 
X
e
0
.
2
)
)
,
 
(
h
e
1
,
 
.
i
n
r
 
(
6
,
 
[
.
r
e
f
 
a
e
1
,
 
.
i
n
t
 
X
e
1
.
1
]
)
)
,
 
(
a
e
1
,
 
.
i
n
l
 
(
E
.
2
.
1
,
 
4
8
,
 
.
i
n
l
 
X
e
1
.
2
)
)
,
 
(
h
t
,
 
.
i
n
r
 
(
9
,
 
[
.
r
e
f
 
h
s
m
,
 
.
r
e
f
 
h
g
r
,
 
.
r
e
f
 
h
s
r
,
 
.
r
e
f
 
h
b
l
,
 
.
r
e
f
 
h
t
e
x
t
,
 
.
r
e
f
 
h
s
u
m
]
)
)
,
 
(
h
s
m
,
 
.
i
n
r
 
(
7
,
 
[
.
r
e
f
 
q
b
s
m
,
 
.
r
e
f
 
q
s
s
m
]
)
)
,
 
(
q
b
s
m
,
 
.
i
n
l
 
(
E
.
2
.
1
,
 
1
6
,
 
.
i
n
l
 
b
k
s
m
)
)
,
 
(
q
s
s
m
,
 
.
i
n
l
 
(
E
.
2
.
1
,
 
4
,
 
.
i
n
l
 
s
t
s
m
)
)
,
 
(
h
s
r
,
 
.
i
n
r
 
(
8
,
 
[
.
r
e
f
 
q
m
s
r
]
)
)
,
 
(
q
m
s
r
,
 
.
i
n
l
 
(
E
.
2
.
1
,
 
2
5
6
,
 
.
i
n
l
 
m
x
s
r
)
)
,
 
(
h
t
e
x
t
,
 
.
i
n
r
 
(
6
,
 
[
.
r
e
f
 
a
t
e
x
t
,
 
.
i
n
t
 
X
t
e
x
t
.
1
]
)
)
,
 
(
a
t
e
x
t
,
 
.
i
n
l
 
(
E
.
2
.
1
,
 
4
3
2
,
 
.
i
n
l
 
X
t
e
x
t
.
2
)
)
,
 
(
h
s
u
m
,
 
.
i
n
r
 
(
6
,
 
[
.
r
e
f
 
a
s
u
m
,
 
.
i
n
t
 
X
s
u
m
.
1
]
)
)
,
 
(
a
s
u
m
,
 
.
i
n
l
 
(
E
.
2
.
1
,
 
3
2
,
 
.
i
n
l
 
X
s
u
m
.
2
)
)
,
 
(
h
p
a
d
,
 
.
i
n
r
 
(
6
,
 
[
.
r
e
f
 
a
p
a
d
,
 
.
i
n
t
 
X
p
a
d
.
1
]
)
)
,
 
(
a
p
a
d
,
 
.
i
n
l
 
(
E
.
2
.
1
,
 
3
2
,
 
.
i
n
l
 
X
p
a
d
.
2
)
)
,
 
(
h
c
o
l
,
 
.
i
n
r
 
(
6
,
 
[
.
r
e
f
 
a
c
o
l
,
 
.
i
n
t
 
X
c
o
l
.
1
]
)
)
]
)
 
(
w
r
 
:
=
 
[
(
a
o
u
t
,
 
.
i
n
l
 
(
c
L
,
 
1
,
 
.
i
n
r
 
(
.
i
n
l
 
g
g
)
)
)
]
)
 
r
f
l
 
r
f
l
 
r
f
l
 
(
b
y
 
d
e
c
i
d
e
)
 
0
 
1
1
 
r
f
l
 
r
f
l
 
r
f
l
 
(
k
_
X
1
0
_
m
a
k
e
_
e
 
E
 
s
a
 
l
 
h
s
t
 
h
 
h
l
k
 
h
v
 
h
t
 
h
c
o
l
 
h
a
n
s
 
h
p
a
d
 
h
c
h
k
 
h
u
s
e
r
 
h
o
w
n
e
r
 
h
t
r
i
e
d
 
h
i
d
e
n
t
 
h
t
a
p
e
 
h
s
e
c
r
e
t
 
q
e
n
t
 
h
n
o
e
 
a
u
s
e
r
 
a
o
w
n
e
r
 
a
i
d
e
n
t
 
a
t
a
p
e
 
a
s
e
c
r
e
t
 
h
e
0
 
h
e
1
 
a
e
0
 
a
e
1
 
h
s
m
 
h
g
r
 
h
s
r
 
h
b
l
 
h
t
e
x
t
 
h
s
u
m
 
q
b
s
m
 
q
s
s
m
 
q
m
s
r
 
a
t
e
x
t
 
a
s
u
m
 
a
p
a
d
 
a
c
o
l
 
r
v
 
c
f
o
r
 
c
b
a
c
k
 
f
i
l
t
 
g
i
v
e
n
 
p
e
r
m
 
p
l
a
i
n
 
X
u
s
e
r
 
X
o
w
n
e
r
 
X
i
d
e
n
t
 
X
t
a
p
e
 
X
s
e
c
r
e
t
 
X
e
0
 
X
e
1
 
b
k
s
m
 
s
t
s
m
 
m
x
s
r
 
X
t
e
x
t
 
X
s
u
m
 
X
p
a
d
 
X
c
o
l
 
v
p
 
h
2
r
v
)
 
(
c
w
V
 
1
 
h
t
s
 
g
L
_
m
a
k
e
_
X
1
0
_
m
a
k
e
 
r
f
l
 
r
f
l
 
r
f
l
 
(
b
y
 
d
e
c
i
d
e
 
+
k
e
r
n
e
l
)
 
⟨
N
a
t
.
l
e
_
o
f
_
b
l
e
_
e
q
_
t
r
u
e
 
r
f
l
,
 
N
a
t
.
l
e
_
o
f
_
b
l
e
_
e
q
_
t
r
u
e
 
r
f
l
⟩
)
 
r
f
l
 
r
f
l
 
r
f
l
 
(
N
a
t
.
l
e
_
o
f
_
b
l
e
_
e
q
_
t
r
u
e
 
r
f
l
)
 
d
L
_
m
a
k
e
_
4
 
⟨
N
a
t
.
l
e
_
o
f
_
b
l
e
_
e
q
_
t
r
u
e
 
r
f
l
,
 
N
a
t
.
l
e
_
o
f
_
b
l
e
_
e
q
_
t
r
u
e
 
r
f
l
⟩
 
(
f
u
n
 
n
m
_
2
6
 
c
e
_
2
6
 
q
_
2
6
 
H
_
2
7
 
l
o
c
s
_
2
7
 
p
x
_
2
6
 
h
P
_
2
7
 
h
D
_
2
7
 
h
S
_
2
7
 
h
c
e
_
2
6
 
h
c
v
_
2
6
 
h
c
l
_
2
6
 
=
>
 
?
_
)
 
(
f
u
n
 
r
_
2
3
 
u
_
2
3
 
H
_
2
4
 
l
o
c
s
_
2
4
 
h
u
_
2
3
 
h
P
_
2
4
 
h
D
_
2
4
 
h
S
_
2
4
 
=
>
 
?
_
)


 
 
·
 
r
e
p
l
a
c
e
 
h
P
_
2
7
 
:
 
v
a
_
P
 
E
.
1
 
v
w
C
l
 
[
(
a
o
u
t
,
 
.
i
n
l
 
(
c
L
,
 
1
,
 
.
i
n
r
 
(
.
i
n
l
 
g
g
)
)
)
,
 
(
h
,
 
.
i
n
r
 
(
1
1
,
 
[
.
r
e
f
 
h
l
k
,
 
.
r
e
f
 
h
v
,
 
.
r
e
f
 
h
t
,
 
.
r
e
f
 
h
c
o
l
,
 
.
r
e
f
 
h
a
n
s
,
 
.
i
n
t
 
c
f
o
r
,
 
.
i
n
t
 
c
b
a
c
k
,
 
.
i
n
t
 
f
i
l
t
]
)
)
,
 
(
h
l
k
,
 
.
i
n
r
 
(
3
,
 
[
.
r
e
f
 
h
v
,
 
.
r
e
f
 
h
t
,
 
.
r
e
f
 
h
p
a
d
,
 
.
r
e
f
 
h
c
h
k
]
)
)
,
 
(
h
v
,
 
.
i
n
r
 
(
1
0
,
 
[
.
i
n
t
 
(
n
I
 
r
v
)
,
 
.
r
e
f
 
h
u
s
e
r
,
 
.
r
e
f
 
h
o
w
n
e
r
,
 
.
r
e
f
 
h
t
r
i
e
d
,
 
.
r
e
f
 
h
i
d
e
n
t
,
 
.
r
e
f
 
h
t
a
p
e
,
 
.
i
n
t
 
g
i
v
e
n
,
 
.
r
e
f
 
h
s
e
c
r
e
t
,
 
.
r
e
f
 
q
e
n
t
,
 
.
r
e
f
 
h
n
o
e
,
 
.
i
n
t
 
p
e
r
m
,
 
.
i
n
t
 
p
l
a
i
n
]
)
)
,
 
(
h
u
s
e
r
,
 
.
i
n
r
 
(
6
,
 
[
.
r
e
f
 
a
u
s
e
r
,
 
.
i
n
t
 
X
u
s
e
r
.
1
]
)
)
,
 
(
a
u
s
e
r
,
 
.
i
n
l
 
(
E
.
2
.
1
,
 
1
2
7
,
 
.
i
n
l
 
X
u
s
e
r
.
2
)
)
,
 
(
h
o
w
n
e
r
,
 
.
i
n
r
 
(
6
,
 
[
.
r
e
f
 
a
o
w
n
e
r
,
 
.
i
n
t
 
X
o
w
n
e
r
.
1
]
)
)
,
 
(
a
o
w
n
e
r
,
 
.
i
n
l
 
(
E
.
2
.
1
,
 
1
2
7
,
 
.
i
n
l
 
X
o
w
n
e
r
.
2
)
)
,
 
(
h
i
d
e
n
t
,
 
.
i
n
r
 
(
6
,
 
[
.
r
e
f
 
a
i
d
e
n
t
,
 
.
i
n
t
 
X
i
d
e
n
t
.
1
]
)
)
,
 
(
a
i
d
e
n
t
,
 
.
i
n
l
 
(
E
.
2
.
1
,
 
3
2
,
 
.
i
n
l
 
X
i
d
e
n
t
.
2
)
)
,
 
(
h
t
a
p
e
,
 
.
i
n
r
 
(
6
,
 
[
.
r
e
f
 
a
t
a
p
e
,
 
.
i
n
t
 
X
t
a
p
e
.
1
]
)
)
,
 
(
h
s
e
c
r
e
t
,
 
.
i
n
r
 
(
6
,
 
[
.
r
e
f
 
a
s
e
c
r
e
t
,
 
.
i
n
t
 
X
s
e
c
r
e
t
.
1
]
)
)
,
 
(
q
e
n
t
,
 
.
i
n
l
 
(
E
.
2
.
2
.
1
,
 
2
,
 
.
i
n
r
 
(
.
i
n
r
 
(
.
i
n
r
 
(
.
i
n
r
 
(
g
E
n
t
 
[
h
e
0
,
 
h
e
1
]
)
)
)
)
)
)
,
 
(
h
e
0
,
 
.
i
n
r
 
(
6
,
 
[
.
r
e
f
 
a
e
0
,
 
.
i
n
t
 
X
e
0
.
1
]
)
)
,
 
(
a
e
0
,
 
.
i
n
l
 
(
E
.
2
.
1
,
 
4
8
,
 
.
i
n
l
 
X
e
0
.
2
)
)
,
 
(
h
e
1
,
 
.
i
n
r
 
(
6
,
 
[
.
r
e
f
 
a
e
1
,
 
.
i
n
t
 
X
e
1
.
1
]
)
)
,
 
(
a
e
1
,
 
.
i
n
l
 
(
E
.
2
.
1
,
 
4
8
,
 
.
i
n
l
 
X
e
1
.
2
)
)
,
 
(
h
t
,
 
.
i
n
r
 
(
9
,
 
[
.
r
e
f
 
h
s
m
,
 
.
r
e
f
 
h
g
r
,
 
.
r
e
f
 
h
s
r
,
 
.
r
e
f
 
h
b
l
,
 
.
r
e
f
 
h
t
e
x
t
,
 
.
r
e
f
 
h
s
u
m
]
)
)
,
 
(
h
s
m
,
 
.
i
n
r
 
(
7
,
 
[
.
r
e
f
 
q
b
s
m
,
 
.
r
e
f
 
q
s
s
m
]
)
)
,
 
(
q
b
s
m
,
 
.
i
n
l
 
(
E
.
2
.
1
,
 
1
6
,
 
.
i
n
l
 
b
k
s
m
)
)
,
 
(
q
s
s
m
,
 
.
i
n
l
 
(
E
.
2
.
1
,
 
4
,
 
.
i
n
l
 
s
t
s
m
)
)
,
 
(
h
s
r
,
 
.
i
n
r
 
(
8
,
 
[
.
r
e
f
 
q
m
s
r
]
)
)
,
 
(
q
m
s
r
,
 
.
i
n
l
 
(
E
.
2
.
1
,
 
2
5
6
,
 
.
i
n
l
 
m
x
s
r
)
)
,
 
(
h
t
e
x
t
,
 
.
i
n
r
 
(
6
,
 
[
.
r
e
f
 
a
t
e
x
t
,
 
.
i
n
t
 
X
t
e
x
t
.
1
]
)
)
,
 
(
a
t
e
x
t
,
 
.
i
n
l
 
(
E
.
2
.
1
,
 
4
3
2
,
 
.
i
n
l
 
X
t
e
x
t
.
2
)
)
,
 
(
h
s
u
m
,
 
.
i
n
r
 
(
6
,
 
[
.
r
e
f
 
a
s
u
m
,
 
.
i
n
t
 
X
s
u
m
.
1
]
)
)
,
 
(
a
s
u
m
,
 
.
i
n
l
 
(
E
.
2
.
1
,
 
3
2
,
 
.
i
n
l
 
X
s
u
m
.
2
)
)
,
 
(
h
p
a
d
,
 
.
i
n
r
 
(
6
,
 
[
.
r
e
f
 
a
p
a
d
,
 
.
i
n
t
 
X
p
a
d
.
1
]
)
)
,
 
(
a
p
a
d
,
 
.
i
n
l
 
(
E
.
2
.
1
,
 
3
2
,
 
.
i
n
l
 
X
p
a
d
.
2
)
)
,
 
(
h
c
o
l
,
 
.
i
n
r
 
(
6
,
 
[
.
r
e
f
 
a
c
o
l
,
 
.
i
n
t
 
X
c
o
l
.
1
]
)
)
]
 
H
_
2
7
 
:
=
 
h
P
_
2
7


 
 
 
 
r
e
p
l
a
c
e
 
h
D
_
2
7
 
:
 
v
a
_
D
 
A
 
[
(
a
o
u
t
,
 
.
i
n
l
 
(
c
L
,
 
1
,
 
.
i
n
r
 
(
.
i
n
l
 
g
g
)
)
)
,
 
(
h
,
 
.
i
n
r
 
(
1
1
,
 
[
.
r
e
f
 
h
l
k
,
 
.
r
e
f
 
h
v
,
 
.
r
e
f
 
h
t
,
 
.
r
e
f
 
h
c
o
l
,
 
.
r
e
f
 
h
a
n
s
,
 
.
i
n
t
 
c
f
o
r
,
 
.
i
n
t
 
c
b
a
c
k
,
 
.
i
n
t
 
f
i
l
t
]
)
)
,
 
(
h
l
k
,
 
.
i
n
r
 
(
3
,
 
[
.
r
e
f
 
h
v
,
 
.
r
e
f
 
h
t
,
 
.
r
e
f
 
h
p
a
d
,
 
.
r
e
f
 
h
c
h
k
]
)
)
,
 
(
h
v
,
 
.
i
n
r
 
(
1
0
,
 
[
.
i
n
t
 
(
n
I
 
r
v
)
,
 
.
r
e
f
 
h
u
s
e
r
,
 
.
r
e
f
 
h
o
w
n
e
r
,
 
.
r
e
f
 
h
t
r
i
e
d
,
 
.
r
e
f
 
h
i
d
e
n
t
,
 
.
r
e
f
 
h
t
a
p
e
,
 
.
i
n
t
 
g
i
v
e
n
,
 
.
r
e
f
 
h
s
e
c
r
e
t
,
 
.
r
e
f
 
q
e
n
t
,
 
.
r
e
f
 
h
n
o
e
,
 
.
i
n
t
 
p
e
r
m
,
 
.
i
n
t
 
p
l
a
i
n
]
)
)
,
 
(
h
u
s
e
r
,
 
.
i
n
r
 
(
6
,
 
[
.
r
e
f
 
a
u
s
e
r
,
 
.
i
n
t
 
X
u
s
e
r
.
1
]
)
)
,
 
(
a
u
s
e
r
,
 
.
i
n
l
 
(
E
.
2
.
1
,
 
1
2
7
,
 
.
i
n
l
 
X
u
s
e
r
.
2
)
)
,
 
(
h
o
w
n
e
r
,
 
.
i
n
r
 
(
6
,
 
[
.
r
e
f
 
a
o
w
n
e
r
,
 
.
i
n
t
 
X
o
w
n
e
r
.
1
]
)
)
,
 
(
a
o
w
n
e
r
,
 
.
i
n
l
 
(
E
.
2
.
1
,
 
1
2
7
,
 
.
i
n
l
 
X
o
w
n
e
r
.
2
)
)
,
 
(
h
i
d
e
n
t
,
 
.
i
n
r
 
(
6
,
 
[
.
r
e
f
 
a
i
d
e
n
t
,
 
.
i
n
t
 
X
i
d
e
n
t
.
1
]
)
)
,
 
(
a
i
d
e
n
t
,
 
.
i
n
l
 
(
E
.
2
.
1
,
 
3
2
,
 
.
i
n
l
 
X
i
d
e
n
t
.
2
)
)
,
 
(
h
t
a
p
e
,
 
.
i
n
r
 
(
6
,
 
[
.
r
e
f
 
a
t
a
p
e
,
 
.
i
n
t
 
X
t
a
p
e
.
1
]
)
)
,
 
(
h
s
e
c
r
e
t
,
 
.
i
n
r
 
(
6
,
 
[
.
r
e
f
 
a
s
e
c
r
e
t
,
 
.
i
n
t
 
X
s
e
c
r
e
t
.
1
]
)
)
,
 
(
q
e
n
t
,
 
.
i
n
l
 
(
E
.
2
.
2
.
1
,
 
2
,
 
.
i
n
r
 
(
.
i
n
r
 
(
.
i
n
r
 
(
.
i
n
r
 
(
g
E
n
t
 
[
h
e
0
,
 
h
e
1
]
)
)
)
)
)
)
,
 
(
h
e
0
,
 
.
i
n
r
 
(
6
,
 
[
.
r
e
f
 
a
e
0
,
 
.
i
n
t
 
X
e
0
.
1
]
)
)
,
 
(
a
e
0
,
 
.
i
n
l
 
(
E
.
2
.
1
,
 
4
8
,
 
.
i
n
l
 
X
e
0
.
2
)
)
,
 
(
h
e
1
,
 
.
i
n
r
 
(
6
,
 
[
.
r
e
f
 
a
e
1
,
 
.
i
n
t
 
X
e
1
.
1
]
)
)
,
 
(
a
e
1
,
 
.
i
n
l
 
(
E
.
2
.
1
,
 
4
8
,
 
.
i
n
l
 
X
e
1
.
2
)
)
,
 
(
h
t
,
 
.
i
n
r
 
(
9
,
 
[
.
r
e
f
 
h
s
m
,
 
.
r
e
f
 
h
g
r
,
 
.
r
e
f
 
h
s
r
,
 
.
r
e
f
 
h
b
l
,
 
.
r
e
f
 
h
t
e
x
t
,
 
.
r
e
f
 
h
s
u
m
]
)
)
,
 
(
h
s
m
,
 
.
i
n
r
 
(
7
,
 
[
.
r
e
f
 
q
b
s
m
,
 
.
r
e
f
 
q
s
s
m
]
)
)
,
 
(
q
b
s
m
,
 
.
i
n
l
 
(
E
.
2
.
1
,
 
1
6
,
 
.
i
n
l
 
b
k
s
m
)
)
,
 
(
q
s
s
m
,
 
.
i
n
l
 
(
E
.
2
.
1
,
 
4
,
 
.
i
n
l
 
s
t
s
m
)
)
,
 
(
h
s
r
,
 
.
i
n
r
 
(
8
,
 
[
.
r
e
f
 
q
m
s
r
]
)
)
,
 
(
q
m
s
r
,
 
.
i
n
l
 
(
E
.
2
.
1
,
 
2
5
6
,
 
.
i
n
l
 
m
x
s
r
)
)
,
 
(
h
t
e
x
t
,
 
.
i
n
r
 
(
6
,
 
[
.
r
e
f
 
a
t
e
x
t
,
 
.
i
n
t
 
X
t
e
x
t
.
1
]
)
)
,
 
(
a
t
e
x
t
,
 
.
i
n
l
 
(
E
.
2
.
1
,
 
4
3
2
,
 
.
i
n
l
 
X
t
e
x
t
.
2
)
)
,
 
(
h
s
u
m
,
 
.
i
n
r
 
(
6
,
 
[
.
r
e
f
 
a
s
u
m
,
 
.
i
n
t
 
X
s
u
m
.
1
]
)
)
,
 
(
a
s
u
m
,
 
.
i
n
l
 
(
E
.
2
.
1
,
 
3
2
,
 
.
i
n
l
 
X
s
u
m
.
2
)
)
,
 
(
h
p
a
d
,
 
.
i
n
r
 
(
6
,
 
[
.
r
e
f
 
a
p
a
d
,
 
.
i
n
t
 
X
p
a
d
.
1
]
)
)
,
 
(
a
p
a
d
,
 
.
i
n
l
 
(
E
.
2
.
1
,
 
3
2
,
 
.
i
n
l
 
X
p
a
d
.
2
)
)
,
 
(
h
c
o
l
,
 
.
i
n
r
 
(
6
,
 
[
.
r
e
f
 
a
c
o
l
,
 
.
i
n
t
 
X
c
o
l
.
1
]
)
)
]
 
:
=
 
h
D
_
2
7


 
 
 
 
c
l
e
a
r
 
h
P
 
h
D
 
h
S


 
 
 
 
h
a
v
e
 
c
_
2
8
 
:
 
¬
 
t
_
2
5
.
1
 
=
 
0
 
:
=
 
b
y
 
r
w
 
[
h
t
_
2
5
]
;
 
e
x
a
c
t
 
p
x
_
2
6
.
2


 
 
 
 
h
a
v
e
 
c
_
2
9
 
:
 
t
_
2
5
.
1
 
=
 
3
 
:
=
 
b
y
 
h
a
v
e
 
q
9
 
:
=
 
L
c
_
X
1
0
_
m
a
k
e
_
e
 
_
 
_
 
_
 
_
 
_
 
_
 
_
 
_
 
_
 
_
 
_
 
_
 
_
 
_
 
_
 
_
 
_
 
_
 
_
;
 
r
w
 
[
←
 
h
t
_
2
5
]
 
a
t
 
q
9
;
 
o
m
e
g
a


 
 
 
 
o
b
t
a
i
n
 
r
f
l
 
:
 
n
m
_
2
6
 
=
 
"
j
a
v
a
/
l
a
n
g
/
I
l
l
e
g
a
l
S
t
a
t
e
E
x
c
e
p
t
i
o
n
"
 
:
=
 
p
x
_
2
6
.
1
.
t
r
a
n
s
 
(
b
y
 
r
w
 
[
←
 
h
t
_
2
5
,
 
c
_
2
9
]
;
 
r
f
l
)


 
 
 
 
r
e
f
i
n
e
 
v
x
_
c
a
t
c
h
 
h
o
w
n
 
[
]
 
⟨
0
,
 
9
,
 
1
2
,
 
2
6
⟩
 
[
]
 
(
b
y
 
r
w
 
[
h
t
a
b
]
;
 
r
f
l
)
 
(
f
u
n
 
z
 
h
9
 
=
>
 
a
b
s
u
r
d
 
h
9
 
L
i
s
t
.
n
o
t
_
m
e
m
_
n
i
l
)
 
(
b
y
 
d
e
c
i
d
e
)
 
(
b
y
 
d
e
c
i
d
e
)
 
w
_
0
 
(
v
a
_
N
w
.
u
s
e
 
r
f
l
 
(
h
X
.
2
.
1
 
(
.
c
a
s
t
a
b
l
e
 
"
j
a
v
a
/
l
a
n
g
/
I
l
l
e
g
a
l
S
t
a
t
e
E
x
c
e
p
t
i
o
n
"
 
"
j
a
v
a
/
l
a
n
g
/
I
l
l
e
g
a
l
S
t
a
t
e
E
x
c
e
p
t
i
o
n
"
)
 
(
b
y
 
d
e
c
i
d
e
 
+
k
e
r
n
e
l
)
)
)
 
h
c
e
_
2
6
 
h
c
v
_
2
6
 
h
c
l
_
2
6
 
?
_


 
 
 
 
r
e
f
i
n
e
 
l
v
_
a
s
t
o
r
e
_
n
 
(
l
v
'
 
:
=
 
[
(
3
,
 
.
r
e
f
 
q
_
2
6
)
,
 
(
0
,
 
.
r
e
f
 
h
)
,
 
(
1
,
 
.
i
n
t
 
v
p
)
,
 
(
2
,
 
.
r
e
f
 
a
o
u
t
)
]
)
 
h
x
 
h
b
 
d
L
_
m
a
k
e
_
1
2
 
r
f
l
 
h
l
 
(
b
y
 
d
e
c
i
d
e
)
 
r
f
l
 
(
f
u
n
 
l
s
_
3
0
 
h
l
_
3
0
 
=
>
 
?
_
)


 
 
 
 
c
l
e
a
r
 
h
l


 
 
 
 
r
e
f
i
n
e
 
l
v
_
i
c
o
n
s
t
 
(
v
 
:
=
 
1
)
 
h
x
 
h
b
 
d
L
_
m
a
k
e
_
1
3
 
(
b
y
 
d
e
c
i
d
e
)
 
?
_


 
 
 
 
r
e
f
i
n
e
 
v
x
_
r
e
t
 
?
_


 
 
 
 
h
a
v
e
 
h
p
o
s
t
 
:
 
(
(
1
,
 
(
p
e
r
m
,
 
X
s
e
c
r
e
t
,
 
X
e
0
,
 
X
e
1
,
 
b
k
s
m
,
 
s
t
s
m
,
 
m
x
s
r
,
 
X
t
e
x
t
,
 
X
s
u
m
,
 
X
p
a
d
,
 
X
c
o
l
,
 
g
g
)
)
 
:
 
I
n
t
3
2
 
×
 
(
I
n
t
3
2
 
×
 
g
R
o
w
 
×
 
g
R
o
w
 
×
 
g
R
o
w
 
×
 
(
N
a
t
 
→
 
I
n
t
3
2
)
 
×
 
(
N
a
t
 
→
 
I
n
t
3
2
)
 
×
 
(
N
a
t
 
→
 
I
n
t
3
2
)
 
×
 
g
R
o
w
 
×
 
g
R
o
w
 
×
 
g
R
o
w
 
×
 
g
R
o
w
 
×
 
(
N
a
t
 
→
 
I
n
t
6
4
)
)
)
 
=
 
F
_
L
_
m
a
k
e
_
e
 
r
v
 
g
i
v
e
n
 
p
e
r
m
 
p
l
a
i
n
 
X
u
s
e
r
 
X
o
w
n
e
r
 
X
i
d
e
n
t
 
X
t
a
p
e
 
X
s
e
c
r
e
t
 
X
e
0
 
X
e
1
 
b
k
s
m
 
s
t
s
m
 
m
x
s
r
 
X
t
e
x
t
 
X
s
u
m
 
X
p
a
d
 
X
c
o
l
 
g
g
 
v
p
 
:
=
 
(
s
h
o
w
 
F
_
L
_
m
a
k
e
_
e
 
r
v
 
g
i
v
e
n
 
p
e
r
m
 
p
l
a
i
n
 
X
u
s
e
r
 
X
o
w
n
e
r
 
X
i
d
e
n
t
 
X
t
a
p
e
 
X
s
e
c
r
e
t
 
X
e
0
 
X
e
1
 
b
k
s
m
 
s
t
s
m
 
m
x
s
r
 
X
t
e
x
t
 
X
s
u
m
 
X
p
a
d
 
X
c
o
l
 
g
g
 
v
p
 
=
 
(
(
1
,
 
(
p
e
r
m
,
 
X
s
e
c
r
e
t
,
 
X
e
0
,
 
X
e
1
,
 
b
k
s
m
,
 
s
t
s
m
,
 
m
x
s
r
,
 
X
t
e
x
t
,
 
X
s
u
m
,
 
X
p
a
d
,
 
X
c
o
l
,
 
g
g
)
)
 
:
 
I
n
t
3
2
 
×
 
(
I
n
t
3
2
 
×
 
g
R
o
w
 
×
 
g
R
o
w
 
×
 
g
R
o
w
 
×
 
(
N
a
t
 
→
 
I
n
t
3
2
)
 
×
 
(
N
a
t
 
→
 
I
n
t
3
2
)
 
×
 
(
N
a
t
 
→
 
I
n
t
3
2
)
 
×
 
g
R
o
w
 
×
 
g
R
o
w
 
×
 
g
R
o
w
 
×
 
g
R
o
w
 
×
 
(
N
a
t
 
→
 
I
n
t
6
4
)
)
)
 
f
r
o
m
 
(
g
L
e
t
_
e
q
 
h
t
_
2
5
 
(
(
i
f
_
n
e
g
 
c
_
2
8
)
.
t
r
a
n
s
 
r
f
l
)
)
)
.
s
y
m
m


 
 
 
 
h
a
v
e
 
h
P
9
 
:
=
 
h
P
_
2
7
.
s
u
b
 
(
w
s
'
 
:
=
 
[
(
h
,
 
.
i
n
r
 
(
1
1
,
 
[
.
r
e
f
 
h
l
k
,
 
.
r
e
f
 
h
v
,
 
.
r
e
f
 
h
t
,
 
.
r
e
f
 
h
c
o
l
,
 
.
r
e
f
 
h
a
n
s
,
 
.
i
n
t
 
c
f
o
r
,
 
.
i
n
t
 
c
b
a
c
k
,
 
.
i
n
t
 
f
i
l
t
]
)
)
,
 
(
h
l
k
,
 
.
i
n
r
 
(
3
,
 
[
.
r
e
f
 
h
v
,
 
.
r
e
f
 
h
t
,
 
.
r
e
f
 
h
p
a
d
,
 
.
r
e
f
 
h
c
h
k
]
)
)
,
 
(
h
v
,
 
.
i
n
r
 
(
1
0
,
 
[
.
i
n
t
 
(
n
I
 
r
v
)
,
 
.
r
e
f
 
h
u
s
e
r
,
 
.
r
e
f
 
h
o
w
n
e
r
,
 
.
r
e
f
 
h
t
r
i
e
d
,
 
.
r
e
f
 
h
i
d
e
n
t
,
 
.
r
e
f
 
h
t
a
p
e
,
 
.
i
n
t
 
g
i
v
e
n
,
 
.
r
e
f
 
h
s
e
c
r
e
t
,
 
.
r
e
f
 
q
e
n
t
,
 
.
r
e
f
 
h
n
o
e
,
 
.
i
n
t
 
p
e
r
m
,
 
.
i
n
t
 
p
l
a
i
n
]
)
)
,
 
(
h
u
s
e
r
,
 
.
i
n
r
 
(
6
,
 
[
.
r
e
f
 
a
u
s
e
r
,
 
.
i
n
t
 
X
u
s
e
r
.
1
]
)
)
,
 
(
a
u
s
e
r
,
 
.
i
n
l
 
(
E
.
2
.
1
,
 
1
2
7
,
 
.
i
n
l
 
X
u
s
e
r
.
2
)
)
,
 
(
h
o
w
n
e
r
,
 
.
i
n
r
 
(
6
,
 
[
.
r
e
f
 
a
o
w
n
e
r
,
 
.
i
n
t
 
X
o
w
n
e
r
.
1
]
)
)
,
 
(
a
o
w
n
e
r
,
 
.
i
n
l
 
(
E
.
2
.
1
,
 
1
2
7
,
 
.
i
n
l
 
X
o
w
n
e
r
.
2
)
)
,
 
(
h
i
d
e
n
t
,
 
.
i
n
r
 
(
6
,
 
[
.
r
e
f
 
a
i
d
e
n
t
,
 
.
i
n
t
 
X
i
d
e
n
t
.
1
]
)
)
,
 
(
a
i
d
e
n
t
,
 
.
i
n
l
 
(
E
.
2
.
1
,
 
3
2
,
 
.
i
n
l
 
X
i
d
e
n
t
.
2
)
)
,
 
(
h
t
a
p
e
,
 
.
i
n
r
 
(
6
,
 
[
.
r
e
f
 
a
t
a
p
e
,
 
.
i
n
t
 
X
t
a
p
e
.
1
]
)
)
,
 
(
h
s
e
c
r
e
t
,
 
.
i
n
r
 
(
6
,
 
[
.
r
e
f
 
a
s
e
c
r
e
t
,
 
.
i
n
t
 
X
s
e
c
r
e
t
.
1
]
)
)
,
 
(
q
e
n
t
,
 
.
i
n
l
 
(
E
.
2
.
2
.
1
,
 
2
,
 
.
i
n
r
 
(
.
i
n
r
 
(
.
i
n
r
 
(
.
i
n
r
 
(
g
E
n
t
 
[
h
e
0
,
 
h
e
1
]
)
)
)
)
)
)
,
 
(
h
e
0
,
 
.
i
n
r
 
(
6
,
 
[
.
r
e
f
 
a
e
0
,
 
.
i
n
t
 
X
e
0
.
1
]
)
)
,
 
(
a
e
0
,
 
.
i
n
l
 
(
E
.
2
.
1
,
 
4
8
,
 
.
i
n
l
 
X
e
0
.
2
)
)
,
 
(
h
e
1
,
 
.
i
n
r
 
(
6
,
 
[
.
r
e
f
 
a
e
1
,
 
.
i
n
t
 
X
e
1
.
1
]
)
)
,
 
(
a
e
1
,
 
.
i
n
l
 
(
E
.
2
.
1
,
 
4
8
,
 
.
i
n
l
 
X
e
1
.
2
)
)
,
 
(
h
t
,
 
.
i
n
r
 
(
9
,
 
[
.
r
e
f
 
h
s
m
,
 
.
r
e
f
 
h
g
r
,
 
.
r
e
f
 
h
s
r
,
 
.
r
e
f
 
h
b
l
,
 
.
r
e
f
 
h
t
e
x
t
,
 
.
r
e
f
 
h
s
u
m
]
)
)
,
 
(
h
s
m
,
 
.
i
n
r
 
(
7
,
 
[
.
r
e
f
 
q
b
s
m
,
 
.
r
e
f
 
q
s
s
m
]
)
)
,
 
(
q
b
s
m
,
 
.
i
n
l
 
(
E
.
2
.
1
,
 
1
6
,
 
.
i
n
l
 
b
k
s
m
)
)
,
 
(
q
s
s
m
,
 
.
i
n
l
 
(
E
.
2
.
1
,
 
4
,
 
.
i
n
l
 
s
t
s
m
)
)
,
 
(
h
s
r
,
 
.
i
n
r
 
(
8
,
 
[
.
r
e
f
 
q
m
s
r
]
)
)
,
 
(
q
m
s
r
,
 
.
i
n
l
 
(
E
.
2
.
1
,
 
2
5
6
,
 
.
i
n
l
 
m
x
s
r
)
)
,
 
(
h
t
e
x
t
,
 
.
i
n
r
 
(
6
,
 
[
.
r
e
f
 
a
t
e
x
t
,
 
.
i
n
t
 
X
t
e
x
t
.
1
]
)
)
,
 
(
a
t
e
x
t
,
 
.
i
n
l
 
(
E
.
2
.
1
,
 
4
3
2
,
 
.
i
n
l
 
X
t
e
x
t
.
2
)
)
,
 
(
h
s
u
m
,
 
.
i
n
r
 
(
6
,
 
[
.
r
e
f
 
a
s
u
m
,
 
.
i
n
t
 
X
s
u
m
.
1
]
)
)
,
 
(
a
s
u
m
,
 
.
i
n
l
 
(
E
.
2
.
1
,
 
3
2
,
 
.
i
n
l
 
X
s
u
m
.
2
)
)
,
 
(
h
p
a
d
,
 
.
i
n
r
 
(
6
,
 
[
.
r
e
f
 
a
p
a
d
,
 
.
i
n
t
 
X
p
a
d
.
1
]
)
)
,
 
(
a
p
a
d
,
 
.
i
n
l
 
(
E
.
2
.
1
,
 
3
2
,
 
.
i
n
l
 
X
p
a
d
.
2
)
)
,
 
(
h
c
o
l
,
 
.
i
n
r
 
(
6
,
 
[
.
r
e
f
 
a
c
o
l
,
 
.
i
n
t
 
X
c
o
l
.
1
]
)
)
,
 
(
a
o
u
t
,
 
.
i
n
l
 
(
c
L
,
 
1
,
 
.
i
n
r
 
(
.
i
n
l
 
g
g
)
)
)
]
)
 
[
1
,
 
2
,
 
3
,
 
4
,
 
5
,
 
6
,
 
7
,
 
8
,
 
9
,
 
1
0
,
 
1
1
,
 
1
2
,
 
1
3
,
 
1
4
,
 
1
5
,
 
1
6
,
 
1
7
,
 
1
8
,
 
1
9
,
 
2
0
,
 
2
1
,
 
2
2
,
 
2
3
,
 
2
4
,
 
2
5
,
 
2
6
,
 
2
7
,
 
2
8
,
 
2
9
,
 
0
]
 
r
f
l


 
 
 
 
h
a
v
e
 
h
D
9
 
:
=
 
h
D
_
2
7
.
s
u
b
 
(
w
s
'
 
:
=
 
[
(
h
,
 
.
i
n
r
 
(
1
1
,
 
[
.
r
e
f
 
h
l
k
,
 
.
r
e
f
 
h
v
,
 
.
r
e
f
 
h
t
,
 
.
r
e
f
 
h
c
o
l
,
 
.
r
e
f
 
h
a
n
s
,
 
.
i
n
t
 
c
f
o
r
,
 
.
i
n
t
 
c
b
a
c
k
,
 
.
i
n
t
 
f
i
l
t
]
)
)
,
 
(
h
l
k
,
 
.
i
n
r
 
(
3
,
 
[
.
r
e
f
 
h
v
,
 
.
r
e
f
 
h
t
,
 
.
r
e
f
 
h
p
a
d
,
 
.
r
e
f
 
h
c
h
k
]
)
)
,
 
(
h
v
,
 
.
i
n
r
 
(
1
0
,
 
[
.
i
n
t
 
(
n
I
 
r
v
)
,
 
.
r
e
f
 
h
u
s
e
r
,
 
.
r
e
f
 
h
o
w
n
e
r
,
 
.
r
e
f
 
h
t
r
i
e
d
,
 
.
r
e
f
 
h
i
d
e
n
t
,
 
.
r
e
f
 
h
t
a
p
e
,
 
.
i
n
t
 
g
i
v
e
n
,
 
.
r
e
f
 
h
s
e
c
r
e
t
,
 
.
r
e
f
 
q
e
n
t
,
 
.
r
e
f
 
h
n
o
e
,
 
.
i
n
t
 
p
e
r
m
,
 
.
i
n
t
 
p
l
a
i
n
]
)
)
,
 
(
h
u
s
e
r
,
 
.
i
n
r
 
(
6
,
 
[
.
r
e
f
 
a
u
s
e
r
,
 
.
i
n
t
 
X
u
s
e
r
.
1
]
)
)
,
 
(
a
u
s
e
r
,
 
.
i
n
l
 
(
E
.
2
.
1
,
 
1
2
7
,
 
.
i
n
l
 
X
u
s
e
r
.
2
)
)
,
 
(
h
o
w
n
e
r
,
 
.
i
n
r
 
(
6
,
 
[
.
r
e
f
 
a
o
w
n
e
r
,
 
.
i
n
t
 
X
o
w
n
e
r
.
1
]
)
)
,
 
(
a
o
w
n
e
r
,
 
.
i
n
l
 
(
E
.
2
.
1
,
 
1
2
7
,
 
.
i
n
l
 
X
o
w
n
e
r
.
2
)
)
,
 
(
h
i
d
e
n
t
,
 
.
i
n
r
 
(
6
,
 
[
.
r
e
f
 
a
i
d
e
n
t
,
 
.
i
n
t
 
X
i
d
e
n
t
.
1
]
)
)
,
 
(
a
i
d
e
n
t
,
 
.
i
n
l
 
(
E
.
2
.
1
,
 
3
2
,
 
.
i
n
l
 
X
i
d
e
n
t
.
2
)
)
,
 
(
h
t
a
p
e
,
 
.
i
n
r
 
(
6
,
 
[
.
r
e
f
 
a
t
a
p
e
,
 
.
i
n
t
 
X
t
a
p
e
.
1
]
)
)
,
 
(
h
s
e
c
r
e
t
,
 
.
i
n
r
 
(
6
,
 
[
.
r
e
f
 
a
s
e
c
r
e
t
,
 
.
i
n
t
 
X
s
e
c
r
e
t
.
1
]
)
)
,
 
(
q
e
n
t
,
 
.
i
n
l
 
(
E
.
2
.
2
.
1
,
 
2
,
 
.
i
n
r
 
(
.
i
n
r
 
(
.
i
n
r
 
(
.
i
n
r
 
(
g
E
n
t
 
[
h
e
0
,
 
h
e
1
]
)
)
)
)
)
)
,
 
(
h
e
0
,
 
.
i
n
r
 
(
6
,
 
[
.
r
e
f
 
a
e
0
,
 
.
i
n
t
 
X
e
0
.
1
]
)
)
,
 
(
a
e
0
,
 
.
i
n
l
 
(
E
.
2
.
1
,
 
4
8
,
 
.
i
n
l
 
X
e
0
.
2
)
)
,
 
(
h
e
1
,
 
.
i
n
r
 
(
6
,
 
[
.
r
e
f
 
a
e
1
,
 
.
i
n
t
 
X
e
1
.
1
]
)
)
,
 
(
a
e
1
,
 
.
i
n
l
 
(
E
.
2
.
1
,
 
4
8
,
 
.
i
n
l
 
X
e
1
.
2
)
)
,
 
(
h
t
,
 
.
i
n
r
 
(
9
,
 
[
.
r
e
f
 
h
s
m
,
 
.
r
e
f
 
h
g
r
,
 
.
r
e
f
 
h
s
r
,
 
.
r
e
f
 
h
b
l
,
 
.
r
e
f
 
h
t
e
x
t
,
 
.
r
e
f
 
h
s
u
m
]
)
)
,
 
(
h
s
m
,
 
.
i
n
r
 
(
7
,
 
[
.
r
e
f
 
q
b
s
m
,
 
.
r
e
f
 
q
s
s
m
]
)
)
,
 
(
q
b
s
m
,
 
.
i
n
l
 
(
E
.
2
.
1
,
 
1
6
,
 
.
i
n
l
 
b
k
s
m
)
)
,
 
(
q
s
s
m
,
 
.
i
n
l
 
(
E
.
2
.
1
,
 
4
,
 
.
i
n
l
 
s
t
s
m
)
)
,
 
(
h
s
r
,
 
.
i
n
r
 
(
8
,
 
[
.
r
e
f
 
q
m
s
r
]
)
)
,
 
(
q
m
s
r
,
 
.
i
n
l
 
(
E
.
2
.
1
,
 
2
5
6
,
 
.
i
n
l
 
m
x
s
r
)
)
,
 
(
h
t
e
x
t
,
 
.
i
n
r
 
(
6
,
 
[
.
r
e
f
 
a
t
e
x
t
,
 
.
i
n
t
 
X
t
e
x
t
.
1
]
)
)
,
 
(
a
t
e
x
t
,
 
.
i
n
l
 
(
E
.
2
.
1
,
 
4
3
2
,
 
.
i
n
l
 
X
t
e
x
t
.
2
)
)
,
 
(
h
s
u
m
,
 
.
i
n
r
 
(
6
,
 
[
.
r
e
f
 
a
s
u
m
,
 
.
i
n
t
 
X
s
u
m
.
1
]
)
)
,
 
(
a
s
u
m
,
 
.
i
n
l
 
(
E
.
2
.
1
,
 
3
2
,
 
.
i
n
l
 
X
s
u
m
.
2
)
)
,
 
(
h
p
a
d
,
 
.
i
n
r
 
(
6
,
 
[
.
r
e
f
 
a
p
a
d
,
 
.
i
n
t
 
X
p
a
d
.
1
]
)
)
,
 
(
a
p
a
d
,
 
.
i
n
l
 
(
E
.
2
.
1
,
 
3
2
,
 
.
i
n
l
 
X
p
a
d
.
2
)
)
,
 
(
h
c
o
l
,
 
.
i
n
r
 
(
6
,
 
[
.
r
e
f
 
a
c
o
l
,
 
.
i
n
t
 
X
c
o
l
.
1
]
)
)
,
 
(
a
o
u
t
,
 
.
i
n
l
 
(
c
L
,
 
1
,
 
.
i
n
r
 
(
.
i
n
l
 
g
g
)
)
)
]
)
 
[
1
,
 
2
,
 
3
,
 
4
,
 
5
,
 
6
,
 
7
,
 
8
,
 
9
,
 
1
0
,
 
1
1
,
 
1
2
,
 
1
3
,
 
1
4
,
 
1
5
,
 
1
6
,
 
1
7
,
 
1
8
,
 
1
9
,
 
2
0
,
 
2
1
,
 
2
2
,
 
2
3
,
 
2
4
,
 
2
5
,
 
2
6
,
 
2
7
,
 
2
8
,
 
2
9
,
 
0
]
 
(
b
y
 
d
e
c
i
d
e
)
 
r
f
l


 
 
 
 
e
x
a
c
t
 
W
.
i
r
e
t
 
(
v
 
:
=
 
1
)
 
h
x
 
h
b
 
h
r
 
(
f
u
n
 
t
 
h
t
 
h
W
 
=
>
 
⟨
⟨
1
,
 
(
p
e
r
m
,
 
X
s
e
c
r
e
t
,
 
X
e
0
,
 
X
e
1
,
 
b
k
s
m
,
 
s
t
s
m
,
 
m
x
s
r
,
 
X
t
e
x
t
,
 
X
s
u
m
,
 
X
p
a
d
,
 
X
c
o
l
,
 
g
g
)
,
 
r
f
l
,
 
⟨
c
o
n
g
r
A
r
g
 
P
r
o
d
.
f
s
t
 
h
p
o
s
t
,
 
c
o
n
g
r
A
r
g
 
P
r
o
d
.
s
n
d
 
h
p
o
s
t
⟩
,
 
b
y
 
r
w
 
[
h
t
]
;
 
e
x
a
c
t
 
h
P
9
,
 
h
D
9
⟩
,
 
h
S
_
2
7
.
F
 
h
t
⟩
)
 
h
S
_
2
7
.
2
.
2
 
d
L
_
m
a
k
e
_
1
4


 
 
·
 
h
a
v
e
 
e
_
3
2
 
:
 
t
_
2
5
 
=
 
(
(
0
,
 
(
r
_
2
3
,
 
u
_
2
3
)
)
 
:
 
N
a
t
 
×
 
(
I
n
t
3
2
 
×
 
(
I
n
t
3
2
 
×
 
g
R
o
w
 
×
 
g
R
o
w
 
×
 
g
R
o
w
 
×
 
(
N
a
t
 
→
 
I
n
t
3
2
)
 
×
 
(
N
a
t
 
→
 
I
n
t
3
2
)
 
×
 
(
N
a
t
 
→
 
I
n
t
3
2
)
 
×
 
g
R
o
w
 
×
 
g
R
o
w
 
×
 
g
R
o
w
 
×
 
g
R
o
w
)
)
)
 
:
=
 
h
t
_
2
5
.
t
r
a
n
s
 
h
u
_
2
3
.
s
y
m
m


 
 
 
 
h
a
v
e
 
c
_
3
1
 
:
 
t
_
2
5
.
1
 
=
 
0
 
:
=
 
b
y
 
r
w
 
[
e
_
3
2
]


 
 
 
 
o
b
t
a
i
n
 
r
f
l
 
:
 
r
_
2
3
 
=
 
t
_
2
5
.
2
.
1
 
:
=
 
(
c
o
n
g
r
A
r
g
 
(
f
u
n
 
z
 
:
 
N
a
t
 
×
 
(
I
n
t
3
2
 
×
 
(
I
n
t
3
2
 
×
 
g
R
o
w
 
×
 
g
R
o
w
 
×
 
g
R
o
w
 
×
 
(
N
a
t
 
→
 
I
n
t
3
2
)
 
×
 
(
N
a
t
 
→
 
I
n
t
3
2
)
 
×
 
(
N
a
t
 
→
 
I
n
t
3
2
)
 
×
 
g
R
o
w
 
×
 
g
R
o
w
 
×
 
g
R
o
w
 
×
 
g
R
o
w
)
)
 
=
>
 
z
.
2
.
1
)
 
e
_
3
2
)
.
s
y
m
m


 
 
 
 
o
b
t
a
i
n
 
r
f
l
 
:
 
u
_
2
3
 
=
 
t
_
2
5
.
2
.
2
 
:
=
 
(
c
o
n
g
r
A
r
g
 
(
f
u
n
 
z
 
:
 
N
a
t
 
×
 
(
I
n
t
3
2
 
×
 
(
I
n
t
3
2
 
×
 
g
R
o
w
 
×
 
g
R
o
w
 
×
 
g
R
o
w
 
×
 
(
N
a
t
 
→
 
I
n
t
3
2
)
 
×
 
(
N
a
t
 
→
 
I
n
t
3
2
)
 
×
 
(
N
a
t
 
→
 
I
n
t
3
2
)
 
×
 
g
R
o
w
 
×
 
g
R
o
w
 
×
 
g
R
o
w
 
×
 
g
R
o
w
)
)
 
=
>
 
z
.
2
.
2
)
 
e
_
3
2
)
.
s
y
m
m


 
 
 
 
r
e
p
l
a
c
e
 
h
P
_
2
4
 
:
 
v
a
_
P
 
E
.
1
 
v
w
C
l
 
[
(
a
o
u
t
,
 
.
i
n
l
 
(
c
L
,
 
1
,
 
.
i
n
r
 
(
.
i
n
l
 
g
g
)
)
)
,
 
(
h
,
 
.
i
n
r
 
(
1
1
,
 
[
.
r
e
f
 
h
l
k
,
 
.
r
e
f
 
h
v
,
 
.
r
e
f
 
h
t
,
 
.
r
e
f
 
h
c
o
l
,
 
.
r
e
f
 
h
a
n
s
,
 
.
i
n
t
 
c
f
o
r
,
 
.
i
n
t
 
c
b
a
c
k
,
 
.
i
n
t
 
f
i
l
t
]
)
)
,
 
(
h
l
k
,
 
.
i
n
r
 
(
3
,
 
[
.
r
e
f
 
h
v
,
 
.
r
e
f
 
h
t
,
 
.
r
e
f
 
h
p
a
d
,
 
.
r
e
f
 
h
c
h
k
]
)
)
,
 
(
h
v
,
 
.
i
n
r
 
(
1
0
,
 
[
.
i
n
t
 
(
n
I
 
r
v
)
,
 
.
r
e
f
 
h
u
s
e
r
,
 
.
r
e
f
 
h
o
w
n
e
r
,
 
.
r
e
f
 
h
t
r
i
e
d
,
 
.
r
e
f
 
h
i
d
e
n
t
,
 
.
r
e
f
 
h
t
a
p
e
,
 
.
i
n
t
 
g
i
v
e
n
,
 
.
r
e
f
 
h
s
e
c
r
e
t
,
 
.
r
e
f
 
q
e
n
t
,
 
.
r
e
f
 
h
n
o
e
,
 
.
i
n
t
 
t
_
2
5
.
2
.
2
.
1
,
 
.
i
n
t
 
p
l
a
i
n
]
)
)
,
 
(
h
u
s
e
r
,
 
.
i
n
r
 
(
6
,
 
[
.
r
e
f
 
a
u
s
e
r
,
 
.
i
n
t
 
X
u
s
e
r
.
1
]
)
)
,
 
(
a
u
s
e
r
,
 
.
i
n
l
 
(
E
.
2
.
1
,
 
1
2
7
,
 
.
i
n
l
 
X
u
s
e
r
.
2
)
)
,
 
(
h
o
w
n
e
r
,
 
.
i
n
r
 
(
6
,
 
[
.
r
e
f
 
a
o
w
n
e
r
,
 
.
i
n
t
 
X
o
w
n
e
r
.
1
]
)
)
,
 
(
a
o
w
n
e
r
,
 
.
i
n
l
 
(
E
.
2
.
1
,
 
1
2
7
,
 
.
i
n
l
 
X
o
w
n
e
r
.
2
)
)
,
 
(
h
i
d
e
n
t
,
 
.
i
n
r
 
(
6
,
 
[
.
r
e
f
 
a
i
d
e
n
t
,
 
.
i
n
t
 
X
i
d
e
n
t
.
1
]
)
)
,
 
(
a
i
d
e
n
t
,
 
.
i
n
l
 
(
E
.
2
.
1
,
 
3
2
,
 
.
i
n
l
 
X
i
d
e
n
t
.
2
)
)
,
 
(
h
t
a
p
e
,
 
.
i
n
r
 
(
6
,
 
[
.
r
e
f
 
a
t
a
p
e
,
 
.
i
n
t
 
X
t
a
p
e
.
1
]
)
)
,
 
(
h
s
e
c
r
e
t
,
 
.
i
n
r
 
(
6
,
 
[
.
r
e
f
 
a
s
e
c
r
e
t
,
 
.
i
n
t
 
t
_
2
5
.
2
.
2
.
2
.
1
.
1
]
)
)
,
 
(
q
e
n
t
,
 
.
i
n
l
 
(
E
.
2
.
2
.
1
,
 
2
,
 
.
i
n
r
 
(
.
i
n
r
 
(
.
i
n
r
 
(
.
i
n
r
 
(
g
E
n
t
 
[
h
e
0
,
 
h
e
1
]
)
)
)
)
)
)
,
 
(
h
e
0
,
 
.
i
n
r
 
(
6
,
 
[
.
r
e
f
 
a
e
0
,
 
.
i
n
t
 
t
_
2
5
.
2
.
2
.
2
.
2
.
1
.
1
]
)
)
,
 
(
a
e
0
,
 
.
i
n
l
 
(
E
.
2
.
1
,
 
4
8
,
 
.
i
n
l
 
t
_
2
5
.
2
.
2
.
2
.
2
.
1
.
2
)
)
,
 
(
h
e
1
,
 
.
i
n
r
 
(
6
,
 
[
.
r
e
f
 
a
e
1
,
 
.
i
n
t
 
t
_
2
5
.
2
.
2
.
2
.
2
.
2
.
1
.
1
]
)
)
,
 
(
a
e
1
,
 
.
i
n
l
 
(
E
.
2
.
1
,
 
4
8
,
 
.
i
n
l
 
t
_
2
5
.
2
.
2
.
2
.
2
.
2
.
1
.
2
)
)
,
 
(
h
t
,
 
.
i
n
r
 
(
9
,
 
[
.
r
e
f
 
h
s
m
,
 
.
r
e
f
 
h
g
r
,
 
.
r
e
f
 
h
s
r
,
 
.
r
e
f
 
h
b
l
,
 
.
r
e
f
 
h
t
e
x
t
,
 
.
r
e
f
 
h
s
u
m
]
)
)
,
 
(
h
s
m
,
 
.
i
n
r
 
(
7
,
 
[
.
r
e
f
 
q
b
s
m
,
 
.
r
e
f
 
q
s
s
m
]
)
)
,
 
(
q
b
s
m
,
 
.
i
n
l
 
(
E
.
2
.
1
,
 
1
6
,
 
.
i
n
l
 
t
_
2
5
.
2
.
2
.
2
.
2
.
2
.
2
.
1
)
)
,
 
(
q
s
s
m
,
 
.
i
n
l
 
(
E
.
2
.
1
,
 
4
,
 
.
i
n
l
 
t
_
2
5
.
2
.
2
.
2
.
2
.
2
.
2
.
2
.
1
)
)
,
 
(
h
s
r
,
 
.
i
n
r
 
(
8
,
 
[
.
r
e
f
 
q
m
s
r
]
)
)
,
 
(
q
m
s
r
,
 
.
i
n
l
 
(
E
.
2
.
1
,
 
2
5
6
,
 
.
i
n
l
 
t
_
2
5
.
2
.
2
.
2
.
2
.
2
.
2
.
2
.
2
.
1
)
)
,
 
(
h
t
e
x
t
,
 
.
i
n
r
 
(
6
,
 
[
.
r
e
f
 
a
t
e
x
t
,
 
.
i
n
t
 
t
_
2
5
.
2
.
2
.
2
.
2
.
2
.
2
.
2
.
2
.
2
.
1
.
1
]
)
)
,
 
(
a
t
e
x
t
,
 
.
i
n
l
 
(
E
.
2
.
1
,
 
4
3
2
,
 
.
i
n
l
 
t
_
2
5
.
2
.
2
.
2
.
2
.
2
.
2
.
2
.
2
.
2
.
1
.
2
)
)
,
 
(
h
s
u
m
,
 
.
i
n
r
 
(
6
,
 
[
.
r
e
f
 
a
s
u
m
,
 
.
i
n
t
 
t
_
2
5
.
2
.
2
.
2
.
2
.
2
.
2
.
2
.
2
.
2
.
2
.
1
.
1
]
)
)
,
 
(
a
s
u
m
,
 
.
i
n
l
 
(
E
.
2
.
1
,
 
3
2
,
 
.
i
n
l
 
t
_
2
5
.
2
.
2
.
2
.
2
.
2
.
2
.
2
.
2
.
2
.
2
.
1
.
2
)
)
,
 
(
h
p
a
d
,
 
.
i
n
r
 
(
6
,
 
[
.
r
e
f
 
a
p
a
d
,
 
.
i
n
t
 
t
_
2
5
.
2
.
2
.
2
.
2
.
2
.
2
.
2
.
2
.
2
.
2
.
2
.
1
.
1
]
)
)
,
 
(
a
p
a
d
,
 
.
i
n
l
 
(
E
.
2
.
1
,
 
3
2
,
 
.
i
n
l
 
t
_
2
5
.
2
.
2
.
2
.
2
.
2
.
2
.
2
.
2
.
2
.
2
.
2
.
1
.
2
)
)
,
 
(
h
c
o
l
,
 
.
i
n
r
 
(
6
,
 
[
.
r
e
f
 
a
c
o
l
,
 
.
i
n
t
 
t
_
2
5
.
2
.
2
.
2
.
2
.
2
.
2
.
2
.
2
.
2
.
2
.
2
.
2
.
1
]
)
)
]
 
H
_
2
4
 
:
=
 
h
P
_
2
4


 
 
 
 
r
e
p
l
a
c
e
 
h
D
_
2
4
 
:
 
v
a
_
D
 
A
 
[
(
a
o
u
t
,
 
.
i
n
l
 
(
c
L
,
 
1
,
 
.
i
n
r
 
(
.
i
n
l
 
g
g
)
)
)
,
 
(
h
,
 
.
i
n
r
 
(
1
1
,
 
[
.
r
e
f
 
h
l
k
,
 
.
r
e
f
 
h
v
,
 
.
r
e
f
 
h
t
,
 
.
r
e
f
 
h
c
o
l
,
 
.
r
e
f
 
h
a
n
s
,
 
.
i
n
t
 
c
f
o
r
,
 
.
i
n
t
 
c
b
a
c
k
,
 
.
i
n
t
 
f
i
l
t
]
)
)
,
 
(
h
l
k
,
 
.
i
n
r
 
(
3
,
 
[
.
r
e
f
 
h
v
,
 
.
r
e
f
 
h
t
,
 
.
r
e
f
 
h
p
a
d
,
 
.
r
e
f
 
h
c
h
k
]
)
)
,
 
(
h
v
,
 
.
i
n
r
 
(
1
0
,
 
[
.
i
n
t
 
(
n
I
 
r
v
)
,
 
.
r
e
f
 
h
u
s
e
r
,
 
.
r
e
f
 
h
o
w
n
e
r
,
 
.
r
e
f
 
h
t
r
i
e
d
,
 
.
r
e
f
 
h
i
d
e
n
t
,
 
.
r
e
f
 
h
t
a
p
e
,
 
.
i
n
t
 
g
i
v
e
n
,
 
.
r
e
f
 
h
s
e
c
r
e
t
,
 
.
r
e
f
 
q
e
n
t
,
 
.
r
e
f
 
h
n
o
e
,
 
.
i
n
t
 
t
_
2
5
.
2
.
2
.
1
,
 
.
i
n
t
 
p
l
a
i
n
]
)
)
,
 
(
h
u
s
e
r
,
 
.
i
n
r
 
(
6
,
 
[
.
r
e
f
 
a
u
s
e
r
,
 
.
i
n
t
 
X
u
s
e
r
.
1
]
)
)
,
 
(
a
u
s
e
r
,
 
.
i
n
l
 
(
E
.
2
.
1
,
 
1
2
7
,
 
.
i
n
l
 
X
u
s
e
r
.
2
)
)
,
 
(
h
o
w
n
e
r
,
 
.
i
n
r
 
(
6
,
 
[
.
r
e
f
 
a
o
w
n
e
r
,
 
.
i
n
t
 
X
o
w
n
e
r
.
1
]
)
)
,
 
(
a
o
w
n
e
r
,
 
.
i
n
l
 
(
E
.
2
.
1
,
 
1
2
7
,
 
.
i
n
l
 
X
o
w
n
e
r
.
2
)
)
,
 
(
h
i
d
e
n
t
,
 
.
i
n
r
 
(
6
,
 
[
.
r
e
f
 
a
i
d
e
n
t
,
 
.
i
n
t
 
X
i
d
e
n
t
.
1
]
)
)
,
 
(
a
i
d
e
n
t
,
 
.
i
n
l
 
(
E
.
2
.
1
,
 
3
2
,
 
.
i
n
l
 
X
i
d
e
n
t
.
2
)
)
,
 
(
h
t
a
p
e
,
 
.
i
n
r
 
(
6
,
 
[
.
r
e
f
 
a
t
a
p
e
,
 
.
i
n
t
 
X
t
a
p
e
.
1
]
)
)
,
 
(
h
s
e
c
r
e
t
,
 
.
i
n
r
 
(
6
,
 
[
.
r
e
f
 
a
s
e
c
r
e
t
,
 
.
i
n
t
 
t
_
2
5
.
2
.
2
.
2
.
1
.
1
]
)
)
,
 
(
q
e
n
t
,
 
.
i
n
l
 
(
E
.
2
.
2
.
1
,
 
2
,
 
.
i
n
r
 
(
.
i
n
r
 
(
.
i
n
r
 
(
.
i
n
r
 
(
g
E
n
t
 
[
h
e
0
,
 
h
e
1
]
)
)
)
)
)
)
,
 
(
h
e
0
,
 
.
i
n
r
 
(
6
,
 
[
.
r
e
f
 
a
e
0
,
 
.
i
n
t
 
t
_
2
5
.
2
.
2
.
2
.
2
.
1
.
1
]
)
)
,
 
(
a
e
0
,
 
.
i
n
l
 
(
E
.
2
.
1
,
 
4
8
,
 
.
i
n
l
 
t
_
2
5
.
2
.
2
.
2
.
2
.
1
.
2
)
)
,
 
(
h
e
1
,
 
.
i
n
r
 
(
6
,
 
[
.
r
e
f
 
a
e
1
,
 
.
i
n
t
 
t
_
2
5
.
2
.
2
.
2
.
2
.
2
.
1
.
1
]
)
)
,
 
(
a
e
1
,
 
.
i
n
l
 
(
E
.
2
.
1
,
 
4
8
,
 
.
i
n
l
 
t
_
2
5
.
2
.
2
.
2
.
2
.
2
.
1
.
2
)
)
,
 
(
h
t
,
 
.
i
n
r
 
(
9
,
 
[
.
r
e
f
 
h
s
m
,
 
.
r
e
f
 
h
g
r
,
 
.
r
e
f
 
h
s
r
,
 
.
r
e
f
 
h
b
l
,
 
.
r
e
f
 
h
t
e
x
t
,
 
.
r
e
f
 
h
s
u
m
]
)
)
,
 
(
h
s
m
,
 
.
i
n
r
 
(
7
,
 
[
.
r
e
f
 
q
b
s
m
,
 
.
r
e
f
 
q
s
s
m
]
)
)
,
 
(
q
b
s
m
,
 
.
i
n
l
 
(
E
.
2
.
1
,
 
1
6
,
 
.
i
n
l
 
t
_
2
5
.
2
.
2
.
2
.
2
.
2
.
2
.
1
)
)
,
 
(
q
s
s
m
,
 
.
i
n
l
 
(
E
.
2
.
1
,
 
4
,
 
.
i
n
l
 
t
_
2
5
.
2
.
2
.
2
.
2
.
2
.
2
.
2
.
1
)
)
,
 
(
h
s
r
,
 
.
i
n
r
 
(
8
,
 
[
.
r
e
f
 
q
m
s
r
]
)
)
,
 
(
q
m
s
r
,
 
.
i
n
l
 
(
E
.
2
.
1
,
 
2
5
6
,
 
.
i
n
l
 
t
_
2
5
.
2
.
2
.
2
.
2
.
2
.
2
.
2
.
2
.
1
)
)
,
 
(
h
t
e
x
t
,
 
.
i
n
r
 
(
6
,
 
[
.
r
e
f
 
a
t
e
x
t
,
 
.
i
n
t
 
t
_
2
5
.
2
.
2
.
2
.
2
.
2
.
2
.
2
.
2
.
2
.
1
.
1
]
)
)
,
 
(
a
t
e
x
t
,
 
.
i
n
l
 
(
E
.
2
.
1
,
 
4
3
2
,
 
.
i
n
l
 
t
_
2
5
.
2
.
2
.
2
.
2
.
2
.
2
.
2
.
2
.
2
.
1
.
2
)
)
,
 
(
h
s
u
m
,
 
.
i
n
r
 
(
6
,
 
[
.
r
e
f
 
a
s
u
m
,
 
.
i
n
t
 
t
_
2
5
.
2
.
2
.
2
.
2
.
2
.
2
.
2
.
2
.
2
.
2
.
1
.
1
]
)
)
,
 
(
a
s
u
m
,
 
.
i
n
l
 
(
E
.
2
.
1
,
 
3
2
,
 
.
i
n
l
 
t
_
2
5
.
2
.
2
.
2
.
2
.
2
.
2
.
2
.
2
.
2
.
2
.
1
.
2
)
)
,
 
(
h
p
a
d
,
 
.
i
n
r
 
(
6
,
 
[
.
r
e
f
 
a
p
a
d
,
 
.
i
n
t
 
t
_
2
5
.
2
.
2
.
2
.
2
.
2
.
2
.
2
.
2
.
2
.
2
.
2
.
1
.
1
]
)
)
,
 
(
a
p
a
d
,
 
.
i
n
l
 
(
E
.
2
.
1
,
 
3
2
,
 
.
i
n
l
 
t
_
2
5
.
2
.
2
.
2
.
2
.
2
.
2
.
2
.
2
.
2
.
2
.
2
.
1
.
2
)
)
,
 
(
h
c
o
l
,
 
.
i
n
r
 
(
6
,
 
[
.
r
e
f
 
a
c
o
l
,
 
.
i
n
t
 
t
_
2
5
.
2
.
2
.
2
.
2
.
2
.
2
.
2
.
2
.
2
.
2
.
2
.
2
.
1
]
)
)
]
 
:
=
 
h
D
_
2
4


 
 
 
 
c
l
e
a
r
 
h
P
 
h
D
 
h
S


 
 
 
 
r
e
f
i
n
e
 
l
v
_
i
2
l
 
(
v
 
:
=
 
t
_
2
5
.
2
.
1
.
t
o
I
n
t
6
4
)
 
h
x
 
h
b
 
d
L
_
m
a
k
e
_
7
 
r
f
l
 
?
_


 
 
 
 
r
e
f
i
n
e
 
v
a
_
l
a
s
t
 
h
x
 
h
b
 
h
L
 
h
P
_
2
4
 
h
D
_
2
4
 
h
S
_
2
4
 
0
 
2
 
r
f
l
 
r
f
l
 
(
b
y
 
d
e
c
i
d
e
)
 
d
L
_
m
a
k
e
_
8
 
(
f
u
n
 
H
_
3
3
 
l
o
c
s
_
3
3
 
h
P
_
3
3
 
h
D
_
3
3
 
h
S
_
3
3
 
=
>
 
?
_
)


 
 
 
 
r
e
p
l
a
c
e
 
h
P
_
3
3
 
:
 
v
a
_
P
 
E
.
1
 
v
w
C
l
 
[
(
a
o
u
t
,
 
.
i
n
l
 
(
c
L
,
 
1
,
 
.
i
n
r
 
(
.
i
n
l
 
(
v
p
_
u
p
d
L
 
g
g
 
(
0
 
:
 
I
n
t
3
2
)
.
t
o
N
a
t
C
l
a
m
p
N
e
g
 
(
t
_
2
5
.
2
.
1
.
t
o
I
n
t
6
4
)
)
)
)
)
,
 
(
h
,
 
.
i
n
r
 
(
1
1
,
 
[
.
r
e
f
 
h
l
k
,
 
.
r
e
f
 
h
v
,
 
.
r
e
f
 
h
t
,
 
.
r
e
f
 
h
c
o
l
,
 
.
r
e
f
 
h
a
n
s
,
 
.
i
n
t
 
c
f
o
r
,
 
.
i
n
t
 
c
b
a
c
k
,
 
.
i
n
t
 
f
i
l
t
]
)
)
,
 
(
h
l
k
,
 
.
i
n
r
 
(
3
,
 
[
.
r
e
f
 
h
v
,
 
.
r
e
f
 
h
t
,
 
.
r
e
f
 
h
p
a
d
,
 
.
r
e
f
 
h
c
h
k
]
)
)
,
 
(
h
v
,
 
.
i
n
r
 
(
1
0
,
 
[
.
i
n
t
 
(
n
I
 
r
v
)
,
 
.
r
e
f
 
h
u
s
e
r
,
 
.
r
e
f
 
h
o
w
n
e
r
,
 
.
r
e
f
 
h
t
r
i
e
d
,
 
.
r
e
f
 
h
i
d
e
n
t
,
 
.
r
e
f
 
h
t
a
p
e
,
 
.
i
n
t
 
g
i
v
e
n
,
 
.
r
e
f
 
h
s
e
c
r
e
t
,
 
.
r
e
f
 
q
e
n
t
,
 
.
r
e
f
 
h
n
o
e
,
 
.
i
n
t
 
t
_
2
5
.
2
.
2
.
1
,
 
.
i
n
t
 
p
l
a
i
n
]
)
)
,
 
(
h
u
s
e
r
,
 
.
i
n
r
 
(
6
,
 
[
.
r
e
f
 
a
u
s
e
r
,
 
.
i
n
t
 
X
u
s
e
r
.
1
]
)
)
,
 
(
a
u
s
e
r
,
 
.
i
n
l
 
(
E
.
2
.
1
,
 
1
2
7
,
 
.
i
n
l
 
X
u
s
e
r
.
2
)
)
,
 
(
h
o
w
n
e
r
,
 
.
i
n
r
 
(
6
,
 
[
.
r
e
f
 
a
o
w
n
e
r
,
 
.
i
n
t
 
X
o
w
n
e
r
.
1
]
)
)
,
 
(
a
o
w
n
e
r
,
 
.
i
n
l
 
(
E
.
2
.
1
,
 
1
2
7
,
 
.
i
n
l
 
X
o
w
n
e
r
.
2
)
)
,
 
(
h
i
d
e
n
t
,
 
.
i
n
r
 
(
6
,
 
[
.
r
e
f
 
a
i
d
e
n
t
,
 
.
i
n
t
 
X
i
d
e
n
t
.
1
]
)
)
,
 
(
a
i
d
e
n
t
,
 
.
i
n
l
 
(
E
.
2
.
1
,
 
3
2
,
 
.
i
n
l
 
X
i
d
e
n
t
.
2
)
)
,
 
(
h
t
a
p
e
,
 
.
i
n
r
 
(
6
,
 
[
.
r
e
f
 
a
t
a
p
e
,
 
.
i
n
t
 
X
t
a
p
e
.
1
]
)
)
,
 
(
h
s
e
c
r
e
t
,
 
.
i
n
r
 
(
6
,
 
[
.
r
e
f
 
a
s
e
c
r
e
t
,
 
.
i
n
t
 
t
_
2
5
.
2
.
2
.
2
.
1
.
1
]
)
)
,
 
(
q
e
n
t
,
 
.
i
n
l
 
(
E
.
2
.
2
.
1
,
 
2
,
 
.
i
n
r
 
(
.
i
n
r
 
(
.
i
n
r
 
(
.
i
n
r
 
(
g
E
n
t
 
[
h
e
0
,
 
h
e
1
]
)
)
)
)
)
)
,
 
(
h
e
0
,
 
.
i
n
r
 
(
6
,
 
[
.
r
e
f
 
a
e
0
,
 
.
i
n
t
 
t
_
2
5
.
2
.
2
.
2
.
2
.
1
.
1
]
)
)
,
 
(
a
e
0
,
 
.
i
n
l
 
(
E
.
2
.
1
,
 
4
8
,
 
.
i
n
l
 
t
_
2
5
.
2
.
2
.
2
.
2
.
1
.
2
)
)
,
 
(
h
e
1
,
 
.
i
n
r
 
(
6
,
 
[
.
r
e
f
 
a
e
1
,
 
.
i
n
t
 
t
_
2
5
.
2
.
2
.
2
.
2
.
2
.
1
.
1
]
)
)
,
 
(
a
e
1
,
 
.
i
n
l
 
(
E
.
2
.
1
,
 
4
8
,
 
.
i
n
l
 
t
_
2
5
.
2
.
2
.
2
.
2
.
2
.
1
.
2
)
)
,
 
(
h
t
,
 
.
i
n
r
 
(
9
,
 
[
.
r
e
f
 
h
s
m
,
 
.
r
e
f
 
h
g
r
,
 
.
r
e
f
 
h
s
r
,
 
.
r
e
f
 
h
b
l
,
 
.
r
e
f
 
h
t
e
x
t
,
 
.
r
e
f
 
h
s
u
m
]
)
)
,
 
(
h
s
m
,
 
.
i
n
r
 
(
7
,
 
[
.
r
e
f
 
q
b
s
m
,
 
.
r
e
f
 
q
s
s
m
]
)
)
,
 
(
q
b
s
m
,
 
.
i
n
l
 
(
E
.
2
.
1
,
 
1
6
,
 
.
i
n
l
 
t
_
2
5
.
2
.
2
.
2
.
2
.
2
.
2
.
1
)
)
,
 
(
q
s
s
m
,
 
.
i
n
l
 
(
E
.
2
.
1
,
 
4
,
 
.
i
n
l
 
t
_
2
5
.
2
.
2
.
2
.
2
.
2
.
2
.
2
.
1
)
)
,
 
(
h
s
r
,
 
.
i
n
r
 
(
8
,
 
[
.
r
e
f
 
q
m
s
r
]
)
)
,
 
(
q
m
s
r
,
 
.
i
n
l
 
(
E
.
2
.
1
,
 
2
5
6
,
 
.
i
n
l
 
t
_
2
5
.
2
.
2
.
2
.
2
.
2
.
2
.
2
.
2
.
1
)
)
,
 
(
h
t
e
x
t
,
 
.
i
n
r
 
(
6
,
 
[
.
r
e
f
 
a
t
e
x
t
,
 
.
i
n
t
 
t
_
2
5
.
2
.
2
.
2
.
2
.
2
.
2
.
2
.
2
.
2
.
1
.
1
]
)
)
,
 
(
a
t
e
x
t
,
 
.
i
n
l
 
(
E
.
2
.
1
,
 
4
3
2
,
 
.
i
n
l
 
t
_
2
5
.
2
.
2
.
2
.
2
.
2
.
2
.
2
.
2
.
2
.
1
.
2
)
)
,
 
(
h
s
u
m
,
 
.
i
n
r
 
(
6
,
 
[
.
r
e
f
 
a
s
u
m
,
 
.
i
n
t
 
t
_
2
5
.
2
.
2
.
2
.
2
.
2
.
2
.
2
.
2
.
2
.
2
.
1
.
1
]
)
)
,
 
(
a
s
u
m
,
 
.
i
n
l
 
(
E
.
2
.
1
,
 
3
2
,
 
.
i
n
l
 
t
_
2
5
.
2
.
2
.
2
.
2
.
2
.
2
.
2
.
2
.
2
.
2
.
1
.
2
)
)
,
 
(
h
p
a
d
,
 
.
i
n
r
 
(
6
,
 
[
.
r
e
f
 
a
p
a
d
,
 
.
i
n
t
 
t
_
2
5
.
2
.
2
.
2
.
2
.
2
.
2
.
2
.
2
.
2
.
2
.
2
.
1
.
1
]
)
)
,
 
(
a
p
a
d
,
 
.
i
n
l
 
(
E
.
2
.
1
,
 
3
2
,
 
.
i
n
l
 
t
_
2
5
.
2
.
2
.
2
.
2
.
2
.
2
.
2
.
2
.
2
.
2
.
2
.
1
.
2
)
)
,
 
(
h
c
o
l
,
 
.
i
n
r
 
(
6
,
 
[
.
r
e
f
 
a
c
o
l
,
 
.
i
n
t
 
t
_
2
5
.
2
.
2
.
2
.
2
.
2
.
2
.
2
.
2
.
2
.
2
.
2
.
2
.
1
]
)
)
]
 
H
_
3
3
 
:
=
 
h
P
_
3
3


 
 
 
 
r
e
p
l
a
c
e
 
h
D
_
3
3
 
:
 
v
a
_
D
 
A
 
[
(
a
o
u
t
,
 
.
i
n
l
 
(
c
L
,
 
1
,
 
.
i
n
r
 
(
.
i
n
l
 
(
v
p
_
u
p
d
L
 
g
g
 
(
0
 
:
 
I
n
t
3
2
)
.
t
o
N
a
t
C
l
a
m
p
N
e
g
 
(
t
_
2
5
.
2
.
1
.
t
o
I
n
t
6
4
)
)
)
)
)
,
 
(
h
,
 
.
i
n
r
 
(
1
1
,
 
[
.
r
e
f
 
h
l
k
,
 
.
r
e
f
 
h
v
,
 
.
r
e
f
 
h
t
,
 
.
r
e
f
 
h
c
o
l
,
 
.
r
e
f
 
h
a
n
s
,
 
.
i
n
t
 
c
f
o
r
,
 
.
i
n
t
 
c
b
a
c
k
,
 
.
i
n
t
 
f
i
l
t
]
)
)
,
 
(
h
l
k
,
 
.
i
n
r
 
(
3
,
 
[
.
r
e
f
 
h
v
,
 
.
r
e
f
 
h
t
,
 
.
r
e
f
 
h
p
a
d
,
 
.
r
e
f
 
h
c
h
k
]
)
)
,
 
(
h
v
,
 
.
i
n
r
 
(
1
0
,
 
[
.
i
n
t
 
(
n
I
 
r
v
)
,
 
.
r
e
f
 
h
u
s
e
r
,
 
.
r
e
f
 
h
o
w
n
e
r
,
 
.
r
e
f
 
h
t
r
i
e
d
,
 
.
r
e
f
 
h
i
d
e
n
t
,
 
.
r
e
f
 
h
t
a
p
e
,
 
.
i
n
t
 
g
i
v
e
n
,
 
.
r
e
f
 
h
s
e
c
r
e
t
,
 
.
r
e
f
 
q
e
n
t
,
 
.
r
e
f
 
h
n
o
e
,
 
.
i
n
t
 
t
_
2
5
.
2
.
2
.
1
,
 
.
i
n
t
 
p
l
a
i
n
]
)
)
,
 
(
h
u
s
e
r
,
 
.
i
n
r
 
(
6
,
 
[
.
r
e
f
 
a
u
s
e
r
,
 
.
i
n
t
 
X
u
s
e
r
.
1
]
)
)
,
 
(
a
u
s
e
r
,
 
.
i
n
l
 
(
E
.
2
.
1
,
 
1
2
7
,
 
.
i
n
l
 
X
u
s
e
r
.
2
)
)
,
 
(
h
o
w
n
e
r
,
 
.
i
n
r
 
(
6
,
 
[
.
r
e
f
 
a
o
w
n
e
r
,
 
.
i
n
t
 
X
o
w
n
e
r
.
1
]
)
)
,
 
(
a
o
w
n
e
r
,
 
.
i
n
l
 
(
E
.
2
.
1
,
 
1
2
7
,
 
.
i
n
l
 
X
o
w
n
e
r
.
2
)
)
,
 
(
h
i
d
e
n
t
,
 
.
i
n
r
 
(
6
,
 
[
.
r
e
f
 
a
i
d
e
n
t
,
 
.
i
n
t
 
X
i
d
e
n
t
.
1
]
)
)
,
 
(
a
i
d
e
n
t
,
 
.
i
n
l
 
(
E
.
2
.
1
,
 
3
2
,
 
.
i
n
l
 
X
i
d
e
n
t
.
2
)
)
,
 
(
h
t
a
p
e
,
 
.
i
n
r
 
(
6
,
 
[
.
r
e
f
 
a
t
a
p
e
,
 
.
i
n
t
 
X
t
a
p
e
.
1
]
)
)
,
 
(
h
s
e
c
r
e
t
,
 
.
i
n
r
 
(
6
,
 
[
.
r
e
f
 
a
s
e
c
r
e
t
,
 
.
i
n
t
 
t
_
2
5
.
2
.
2
.
2
.
1
.
1
]
)
)
,
 
(
q
e
n
t
,
 
.
i
n
l
 
(
E
.
2
.
2
.
1
,
 
2
,
 
.
i
n
r
 
(
.
i
n
r
 
(
.
i
n
r
 
(
.
i
n
r
 
(
g
E
n
t
 
[
h
e
0
,
 
h
e
1
]
)
)
)
)
)
)
,
 
(
h
e
0
,
 
.
i
n
r
 
(
6
,
 
[
.
r
e
f
 
a
e
0
,
 
.
i
n
t
 
t
_
2
5
.
2
.
2
.
2
.
2
.
1
.
1
]
)
)
,
 
(
a
e
0
,
 
.
i
n
l
 
(
E
.
2
.
1
,
 
4
8
,
 
.
i
n
l
 
t
_
2
5
.
2
.
2
.
2
.
2
.
1
.
2
)
)
,
 
(
h
e
1
,
 
.
i
n
r
 
(
6
,
 
[
.
r
e
f
 
a
e
1
,
 
.
i
n
t
 
t
_
2
5
.
2
.
2
.
2
.
2
.
2
.
1
.
1
]
)
)
,
 
(
a
e
1
,
 
.
i
n
l
 
(
E
.
2
.
1
,
 
4
8
,
 
.
i
n
l
 
t
_
2
5
.
2
.
2
.
2
.
2
.
2
.
1
.
2
)
)
,
 
(
h
t
,
 
.
i
n
r
 
(
9
,
 
[
.
r
e
f
 
h
s
m
,
 
.
r
e
f
 
h
g
r
,
 
.
r
e
f
 
h
s
r
,
 
.
r
e
f
 
h
b
l
,
 
.
r
e
f
 
h
t
e
x
t
,
 
.
r
e
f
 
h
s
u
m
]
)
)
,
 
(
h
s
m
,
 
.
i
n
r
 
(
7
,
 
[
.
r
e
f
 
q
b
s
m
,
 
.
r
e
f
 
q
s
s
m
]
)
)
,
 
(
q
b
s
m
,
 
.
i
n
l
 
(
E
.
2
.
1
,
 
1
6
,
 
.
i
n
l
 
t
_
2
5
.
2
.
2
.
2
.
2
.
2
.
2
.
1
)
)
,
 
(
q
s
s
m
,
 
.
i
n
l
 
(
E
.
2
.
1
,
 
4
,
 
.
i
n
l
 
t
_
2
5
.
2
.
2
.
2
.
2
.
2
.
2
.
2
.
1
)
)
,
 
(
h
s
r
,
 
.
i
n
r
 
(
8
,
 
[
.
r
e
f
 
q
m
s
r
]
)
)
,
 
(
q
m
s
r
,
 
.
i
n
l
 
(
E
.
2
.
1
,
 
2
5
6
,
 
.
i
n
l
 
t
_
2
5
.
2
.
2
.
2
.
2
.
2
.
2
.
2
.
2
.
1
)
)
,
 
(
h
t
e
x
t
,
 
.
i
n
r
 
(
6
,
 
[
.
r
e
f
 
a
t
e
x
t
,
 
.
i
n
t
 
t
_
2
5
.
2
.
2
.
2
.
2
.
2
.
2
.
2
.
2
.
2
.
1
.
1
]
)
)
,
 
(
a
t
e
x
t
,
 
.
i
n
l
 
(
E
.
2
.
1
,
 
4
3
2
,
 
.
i
n
l
 
t
_
2
5
.
2
.
2
.
2
.
2
.
2
.
2
.
2
.
2
.
2
.
1
.
2
)
)
,
 
(
h
s
u
m
,
 
.
i
n
r
 
(
6
,
 
[
.
r
e
f
 
a
s
u
m
,
 
.
i
n
t
 
t
_
2
5
.
2
.
2
.
2
.
2
.
2
.
2
.
2
.
2
.
2
.
2
.
1
.
1
]
)
)
,
 
(
a
s
u
m
,
 
.
i
n
l
 
(
E
.
2
.
1
,
 
3
2
,
 
.
i
n
l
 
t
_
2
5
.
2
.
2
.
2
.
2
.
2
.
2
.
2
.
2
.
2
.
2
.
1
.
2
)
)
,
 
(
h
p
a
d
,
 
.
i
n
r
 
(
6
,
 
[
.
r
e
f
 
a
p
a
d
,
 
.
i
n
t
 
t
_
2
5
.
2
.
2
.
2
.
2
.
2
.
2
.
2
.
2
.
2
.
2
.
2
.
1
.
1
]
)
)
,
 
(
a
p
a
d
,
 
.
i
n
l
 
(
E
.
2
.
1
,
 
3
2
,
 
.
i
n
l
 
t
_
2
5
.
2
.
2
.
2
.
2
.
2
.
2
.
2
.
2
.
2
.
2
.
2
.
1
.
2
)
)
,
 
(
h
c
o
l
,
 
.
i
n
r
 
(
6
,
 
[
.
r
e
f
 
a
c
o
l
,
 
.
i
n
t
 
t
_
2
5
.
2
.
2
.
2
.
2
.
2
.
2
.
2
.
2
.
2
.
2
.
2
.
2
.
1
]
)
)
]
 
:
=
 
h
D
_
3
3


 
 
 
 
c
l
e
a
r
 
h
P
_
2
4
 
h
D
_
2
4
 
h
S
_
2
4


 
 
 
 
r
e
f
i
n
e
 
l
v
_
g
o
t
o
 
(
t
g
t
 
:
=
 
1
5
)
 
h
x
 
h
b
 
d
L
_
m
a
k
e
_
9
 
(
b
y
 
d
e
c
i
d
e
)
 
?
_


 
 
 
 
r
e
f
i
n
e
 
l
v
_
i
c
o
n
s
t
 
(
v
 
:
=
 
0
)
 
h
x
 
h
b
 
d
L
_
m
a
k
e
_
1
5
 
(
b
y
 
d
e
c
i
d
e
)
 
?
_


 
 
 
 
r
e
f
i
n
e
 
v
x
_
r
e
t
 
?
_


 
 
 
 
h
a
v
e
 
h
p
o
s
t
 
:
 
(
(
0
,
 
(
t
_
2
5
.
2
.
2
.
1
,
 
(
t
_
2
5
.
2
.
2
.
2
.
1
.
1
,
 
X
s
e
c
r
e
t
.
2
)
,
 
t
_
2
5
.
2
.
2
.
2
.
2
.
1
,
 
t
_
2
5
.
2
.
2
.
2
.
2
.
2
.
1
,
 
t
_
2
5
.
2
.
2
.
2
.
2
.
2
.
2
.
1
,
 
t
_
2
5
.
2
.
2
.
2
.
2
.
2
.
2
.
2
.
1
,
 
t
_
2
5
.
2
.
2
.
2
.
2
.
2
.
2
.
2
.
2
.
1
,
 
t
_
2
5
.
2
.
2
.
2
.
2
.
2
.
2
.
2
.
2
.
2
.
1
,
 
t
_
2
5
.
2
.
2
.
2
.
2
.
2
.
2
.
2
.
2
.
2
.
2
.
1
,
 
t
_
2
5
.
2
.
2
.
2
.
2
.
2
.
2
.
2
.
2
.
2
.
2
.
2
.
1
,
 
(
t
_
2
5
.
2
.
2
.
2
.
2
.
2
.
2
.
2
.
2
.
2
.
2
.
2
.
2
.
1
,
 
X
c
o
l
.
2
)
,
 
(
v
p
_
u
p
d
L
 
g
g
 
(
0
 
:
 
I
n
t
3
2
)
.
t
o
N
a
t
C
l
a
m
p
N
e
g
 
(
t
_
2
5
.
2
.
1
.
t
o
I
n
t
6
4
)
)
)
)
 
:
 
I
n
t
3
2
 
×
 
(
I
n
t
3
2
 
×
 
g
R
o
w
 
×
 
g
R
o
w
 
×
 
g
R
o
w
 
×
 
(
N
a
t
 
→
 
I
n
t
3
2
)
 
×
 
(
N
a
t
 
→
 
I
n
t
3
2
)
 
×
 
(
N
a
t
 
→
 
I
n
t
3
2
)
 
×
 
g
R
o
w
 
×
 
g
R
o
w
 
×
 
g
R
o
w
 
×
 
g
R
o
w
 
×
 
(
N
a
t
 
→
 
I
n
t
6
4
)
)
)
 
=
 
F
_
L
_
m
a
k
e
_
e
 
r
v
 
g
i
v
e
n
 
p
e
r
m
 
p
l
a
i
n
 
X
u
s
e
r
 
X
o
w
n
e
r
 
X
i
d
e
n
t
 
X
t
a
p
e
 
X
s
e
c
r
e
t
 
X
e
0
 
X
e
1
 
b
k
s
m
 
s
t
s
m
 
m
x
s
r
 
X
t
e
x
t
 
X
s
u
m
 
X
p
a
d
 
X
c
o
l
 
g
g
 
v
p
 
:
=
 
(
s
h
o
w
 
F
_
L
_
m
a
k
e
_
e
 
r
v
 
g
i
v
e
n
 
p
e
r
m
 
p
l
a
i
n
 
X
u
s
e
r
 
X
o
w
n
e
r
 
X
i
d
e
n
t
 
X
t
a
p
e
 
X
s
e
c
r
e
t
 
X
e
0
 
X
e
1
 
b
k
s
m
 
s
t
s
m
 
m
x
s
r
 
X
t
e
x
t
 
X
s
u
m
 
X
p
a
d
 
X
c
o
l
 
g
g
 
v
p
 
=
 
(
(
0
,
 
(
t
_
2
5
.
2
.
2
.
1
,
 
(
t
_
2
5
.
2
.
2
.
2
.
1
.
1
,
 
X
s
e
c
r
e
t
.
2
)
,
 
t
_
2
5
.
2
.
2
.
2
.
2
.
1
,
 
t
_
2
5
.
2
.
2
.
2
.
2
.
2
.
1
,
 
t
_
2
5
.
2
.
2
.
2
.
2
.
2
.
2
.
1
,
 
t
_
2
5
.
2
.
2
.
2
.
2
.
2
.
2
.
2
.
1
,
 
t
_
2
5
.
2
.
2
.
2
.
2
.
2
.
2
.
2
.
2
.
1
,
 
t
_
2
5
.
2
.
2
.
2
.
2
.
2
.
2
.
2
.
2
.
2
.
1
,
 
t
_
2
5
.
2
.
2
.
2
.
2
.
2
.
2
.
2
.
2
.
2
.
2
.
1
,
 
t
_
2
5
.
2
.
2
.
2
.
2
.
2
.
2
.
2
.
2
.
2
.
2
.
2
.
1
,
 
(
t
_
2
5
.
2
.
2
.
2
.
2
.
2
.
2
.
2
.
2
.
2
.
2
.
2
.
2
.
1
,
 
X
c
o
l
.
2
)
,
 
(
v
p
_
u
p
d
L
 
g
g
 
(
0
 
:
 
I
n
t
3
2
)
.
t
o
N
a
t
C
l
a
m
p
N
e
g
 
(
t
_
2
5
.
2
.
1
.
t
o
I
n
t
6
4
)
)
)
)
 
:
 
I
n
t
3
2
 
×
 
(
I
n
t
3
2
 
×
 
g
R
o
w
 
×
 
g
R
o
w
 
×
 
g
R
o
w
 
×
 
(
N
a
t
 
→
 
I
n
t
3
2
)
 
×
 
(
N
a
t
 
→
 
I
n
t
3
2
)
 
×
 
(
N
a
t
 
→
 
I
n
t
3
2
)
 
×
 
g
R
o
w
 
×
 
g
R
o
w
 
×
 
g
R
o
w
 
×
 
g
R
o
w
 
×
 
(
N
a
t
 
→
 
I
n
t
6
4
)
)
)
 
f
r
o
m
 
(
g
L
e
t
_
e
q
 
h
t
_
2
5
 
(
(
i
f
_
p
o
s
 
c
_
3
1
)
.
t
r
a
n
s
 
r
f
l
)
)
)
.
s
y
m
m


 
 
 
 
h
a
v
e
 
h
P
9
 
:
=
 
h
P
_
3
3
.
s
u
b
 
(
w
s
'
 
:
=
 
[
(
h
,
 
.
i
n
r
 
(
1
1
,
 
[
.
r
e
f
 
h
l
k
,
 
.
r
e
f
 
h
v
,
 
.
r
e
f
 
h
t
,
 
.
r
e
f
 
h
c
o
l
,
 
.
r
e
f
 
h
a
n
s
,
 
.
i
n
t
 
c
f
o
r
,
 
.
i
n
t
 
c
b
a
c
k
,
 
.
i
n
t
 
f
i
l
t
]
)
)
,
 
(
h
l
k
,
 
.
i
n
r
 
(
3
,
 
[
.
r
e
f
 
h
v
,
 
.
r
e
f
 
h
t
,
 
.
r
e
f
 
h
p
a
d
,
 
.
r
e
f
 
h
c
h
k
]
)
)
,
 
(
h
v
,
 
.
i
n
r
 
(
1
0
,
 
[
.
i
n
t
 
(
n
I
 
r
v
)
,
 
.
r
e
f
 
h
u
s
e
r
,
 
.
r
e
f
 
h
o
w
n
e
r
,
 
.
r
e
f
 
h
t
r
i
e
d
,
 
.
r
e
f
 
h
i
d
e
n
t
,
 
.
r
e
f
 
h
t
a
p
e
,
 
.
i
n
t
 
g
i
v
e
n
,
 
.
r
e
f
 
h
s
e
c
r
e
t
,
 
.
r
e
f
 
q
e
n
t
,
 
.
r
e
f
 
h
n
o
e
,
 
.
i
n
t
 
t
_
2
5
.
2
.
2
.
1
,
 
.
i
n
t
 
p
l
a
i
n
]
)
)
,
 
(
h
u
s
e
r
,
 
.
i
n
r
 
(
6
,
 
[
.
r
e
f
 
a
u
s
e
r
,
 
.
i
n
t
 
X
u
s
e
r
.
1
]
)
)
,
 
(
a
u
s
e
r
,
 
.
i
n
l
 
(
E
.
2
.
1
,
 
1
2
7
,
 
.
i
n
l
 
X
u
s
e
r
.
2
)
)
,
 
(
h
o
w
n
e
r
,
 
.
i
n
r
 
(
6
,
 
[
.
r
e
f
 
a
o
w
n
e
r
,
 
.
i
n
t
 
X
o
w
n
e
r
.
1
]
)
)
,
 
(
a
o
w
n
e
r
,
 
.
i
n
l
 
(
E
.
2
.
1
,
 
1
2
7
,
 
.
i
n
l
 
X
o
w
n
e
r
.
2
)
)
,
 
(
h
i
d
e
n
t
,
 
.
i
n
r
 
(
6
,
 
[
.
r
e
f
 
a
i
d
e
n
t
,
 
.
i
n
t
 
X
i
d
e
n
t
.
1
]
)
)
,
 
(
a
i
d
e
n
t
,
 
.
i
n
l
 
(
E
.
2
.
1
,
 
3
2
,
 
.
i
n
l
 
X
i
d
e
n
t
.
2
)
)
,
 
(
h
t
a
p
e
,
 
.
i
n
r
 
(
6
,
 
[
.
r
e
f
 
a
t
a
p
e
,
 
.
i
n
t
 
X
t
a
p
e
.
1
]
)
)
,
 
(
h
s
e
c
r
e
t
,
 
.
i
n
r
 
(
6
,
 
[
.
r
e
f
 
a
s
e
c
r
e
t
,
 
.
i
n
t
 
t
_
2
5
.
2
.
2
.
2
.
1
.
1
]
)
)
,
 
(
q
e
n
t
,
 
.
i
n
l
 
(
E
.
2
.
2
.
1
,
 
2
,
 
.
i
n
r
 
(
.
i
n
r
 
(
.
i
n
r
 
(
.
i
n
r
 
(
g
E
n
t
 
[
h
e
0
,
 
h
e
1
]
)
)
)
)
)
)
,
 
(
h
e
0
,
 
.
i
n
r
 
(
6
,
 
[
.
r
e
f
 
a
e
0
,
 
.
i
n
t
 
t
_
2
5
.
2
.
2
.
2
.
2
.
1
.
1
]
)
)
,
 
(
a
e
0
,
 
.
i
n
l
 
(
E
.
2
.
1
,
 
4
8
,
 
.
i
n
l
 
t
_
2
5
.
2
.
2
.
2
.
2
.
1
.
2
)
)
,
 
(
h
e
1
,
 
.
i
n
r
 
(
6
,
 
[
.
r
e
f
 
a
e
1
,
 
.
i
n
t
 
t
_
2
5
.
2
.
2
.
2
.
2
.
2
.
1
.
1
]
)
)
,
 
(
a
e
1
,
 
.
i
n
l
 
(
E
.
2
.
1
,
 
4
8
,
 
.
i
n
l
 
t
_
2
5
.
2
.
2
.
2
.
2
.
2
.
1
.
2
)
)
,
 
(
h
t
,
 
.
i
n
r
 
(
9
,
 
[
.
r
e
f
 
h
s
m
,
 
.
r
e
f
 
h
g
r
,
 
.
r
e
f
 
h
s
r
,
 
.
r
e
f
 
h
b
l
,
 
.
r
e
f
 
h
t
e
x
t
,
 
.
r
e
f
 
h
s
u
m
]
)
)
,
 
(
h
s
m
,
 
.
i
n
r
 
(
7
,
 
[
.
r
e
f
 
q
b
s
m
,
 
.
r
e
f
 
q
s
s
m
]
)
)
,
 
(
q
b
s
m
,
 
.
i
n
l
 
(
E
.
2
.
1
,
 
1
6
,
 
.
i
n
l
 
t
_
2
5
.
2
.
2
.
2
.
2
.
2
.
2
.
1
)
)
,
 
(
q
s
s
m
,
 
.
i
n
l
 
(
E
.
2
.
1
,
 
4
,
 
.
i
n
l
 
t
_
2
5
.
2
.
2
.
2
.
2
.
2
.
2
.
2
.
1
)
)
,
 
(
h
s
r
,
 
.
i
n
r
 
(
8
,
 
[
.
r
e
f
 
q
m
s
r
]
)
)
,
 
(
q
m
s
r
,
 
.
i
n
l
 
(
E
.
2
.
1
,
 
2
5
6
,
 
.
i
n
l
 
t
_
2
5
.
2
.
2
.
2
.
2
.
2
.
2
.
2
.
2
.
1
)
)
,
 
(
h
t
e
x
t
,
 
.
i
n
r
 
(
6
,
 
[
.
r
e
f
 
a
t
e
x
t
,
 
.
i
n
t
 
t
_
2
5
.
2
.
2
.
2
.
2
.
2
.
2
.
2
.
2
.
2
.
1
.
1
]
)
)
,
 
(
a
t
e
x
t
,
 
.
i
n
l
 
(
E
.
2
.
1
,
 
4
3
2
,
 
.
i
n
l
 
t
_
2
5
.
2
.
2
.
2
.
2
.
2
.
2
.
2
.
2
.
2
.
1
.
2
)
)
,
 
(
h
s
u
m
,
 
.
i
n
r
 
(
6
,
 
[
.
r
e
f
 
a
s
u
m
,
 
.
i
n
t
 
t
_
2
5
.
2
.
2
.
2
.
2
.
2
.
2
.
2
.
2
.
2
.
2
.
1
.
1
]
)
)
,
 
(
a
s
u
m
,
 
.
i
n
l
 
(
E
.
2
.
1
,
 
3
2
,
 
.
i
n
l
 
t
_
2
5
.
2
.
2
.
2
.
2
.
2
.
2
.
2
.
2
.
2
.
2
.
1
.
2
)
)
,
 
(
h
p
a
d
,
 
.
i
n
r
 
(
6
,
 
[
.
r
e
f
 
a
p
a
d
,
 
.
i
n
t
 
t
_
2
5
.
2
.
2
.
2
.
2
.
2
.
2
.
2
.
2
.
2
.
2
.
2
.
1
.
1
]
)
)
,
 
(
a
p
a
d
,
 
.
i
n
l
 
(
E
.
2
.
1
,
 
3
2
,
 
.
i
n
l
 
t
_
2
5
.
2
.
2
.
2
.
2
.
2
.
2
.
2
.
2
.
2
.
2
.
2
.
1
.
2
)
)
,
 
(
h
c
o
l
,
 
.
i
n
r
 
(
6
,
 
[
.
r
e
f
 
a
c
o
l
,
 
.
i
n
t
 
t
_
2
5
.
2
.
2
.
2
.
2
.
2
.
2
.
2
.
2
.
2
.
2
.
2
.
2
.
1
]
)
)
,
 
(
a
o
u
t
,
 
.
i
n
l
 
(
c
L
,
 
1
,
 
.
i
n
r
 
(
.
i
n
l
 
(
v
p
_
u
p
d
L
 
g
g
 
(
0
 
:
 
I
n
t
3
2
)
.
t
o
N
a
t
C
l
a
m
p
N
e
g
 
(
t
_
2
5
.
2
.
1
.
t
o
I
n
t
6
4
)
)
)
)
)
]
)
 
[
1
,
 
2
,
 
3
,
 
4
,
 
5
,
 
6
,
 
7
,
 
8
,
 
9
,
 
1
0
,
 
1
1
,
 
1
2
,
 
1
3
,
 
1
4
,
 
1
5
,
 
1
6
,
 
1
7
,
 
1
8
,
 
1
9
,
 
2
0
,
 
2
1
,
 
2
2
,
 
2
3
,
 
2
4
,
 
2
5
,
 
2
6
,
 
2
7
,
 
2
8
,
 
2
9
,
 
0
]
 
r
f
l


 
 
 
 
h
a
v
e
 
h
D
9
 
:
=
 
h
D
_
3
3
.
s
u
b
 
(
w
s
'
 
:
=
 
[
(
h
,
 
.
i
n
r
 
(
1
1
,
 
[
.
r
e
f
 
h
l
k
,
 
.
r
e
f
 
h
v
,
 
.
r
e
f
 
h
t
,
 
.
r
e
f
 
h
c
o
l
,
 
.
r
e
f
 
h
a
n
s
,
 
.
i
n
t
 
c
f
o
r
,
 
.
i
n
t
 
c
b
a
c
k
,
 
.
i
n
t
 
f
i
l
t
]
)
)
,
 
(
h
l
k
,
 
.
i
n
r
 
(
3
,
 
[
.
r
e
f
 
h
v
,
 
.
r
e
f
 
h
t
,
 
.
r
e
f
 
h
p
a
d
,
 
.
r
e
f
 
h
c
h
k
]
)
)
,
 
(
h
v
,
 
.
i
n
r
 
(
1
0
,
 
[
.
i
n
t
 
(
n
I
 
r
v
)
,
 
.
r
e
f
 
h
u
s
e
r
,
 
.
r
e
f
 
h
o
w
n
e
r
,
 
.
r
e
f
 
h
t
r
i
e
d
,
 
.
r
e
f
 
h
i
d
e
n
t
,
 
.
r
e
f
 
h
t
a
p
e
,
 
.
i
n
t
 
g
i
v
e
n
,
 
.
r
e
f
 
h
s
e
c
r
e
t
,
 
.
r
e
f
 
q
e
n
t
,
 
.
r
e
f
 
h
n
o
e
,
 
.
i
n
t
 
t
_
2
5
.
2
.
2
.
1
,
 
.
i
n
t
 
p
l
a
i
n
]
)
)
,
 
(
h
u
s
e
r
,
 
.
i
n
r
 
(
6
,
 
[
.
r
e
f
 
a
u
s
e
r
,
 
.
i
n
t
 
X
u
s
e
r
.
1
]
)
)
,
 
(
a
u
s
e
r
,
 
.
i
n
l
 
(
E
.
2
.
1
,
 
1
2
7
,
 
.
i
n
l
 
X
u
s
e
r
.
2
)
)
,
 
(
h
o
w
n
e
r
,
 
.
i
n
r
 
(
6
,
 
[
.
r
e
f
 
a
o
w
n
e
r
,
 
.
i
n
t
 
X
o
w
n
e
r
.
1
]
)
)
,
 
(
a
o
w
n
e
r
,
 
.
i
n
l
 
(
E
.
2
.
1
,
 
1
2
7
,
 
.
i
n
l
 
X
o
w
n
e
r
.
2
)
)
,
 
(
h
i
d
e
n
t
,
 
.
i
n
r
 
(
6
,
 
[
.
r
e
f
 
a
i
d
e
n
t
,
 
.
i
n
t
 
X
i
d
e
n
t
.
1
]
)
)
,
 
(
a
i
d
e
n
t
,
 
.
i
n
l
 
(
E
.
2
.
1
,
 
3
2
,
 
.
i
n
l
 
X
i
d
e
n
t
.
2
)
)
,
 
(
h
t
a
p
e
,
 
.
i
n
r
 
(
6
,
 
[
.
r
e
f
 
a
t
a
p
e
,
 
.
i
n
t
 
X
t
a
p
e
.
1
]
)
)
,
 
(
h
s
e
c
r
e
t
,
 
.
i
n
r
 
(
6
,
 
[
.
r
e
f
 
a
s
e
c
r
e
t
,
 
.
i
n
t
 
t
_
2
5
.
2
.
2
.
2
.
1
.
1
]
)
)
,
 
(
q
e
n
t
,
 
.
i
n
l
 
(
E
.
2
.
2
.
1
,
 
2
,
 
.
i
n
r
 
(
.
i
n
r
 
(
.
i
n
r
 
(
.
i
n
r
 
(
g
E
n
t
 
[
h
e
0
,
 
h
e
1
]
)
)
)
)
)
)
,
 
(
h
e
0
,
 
.
i
n
r
 
(
6
,
 
[
.
r
e
f
 
a
e
0
,
 
.
i
n
t
 
t
_
2
5
.
2
.
2
.
2
.
2
.
1
.
1
]
)
)
,
 
(
a
e
0
,
 
.
i
n
l
 
(
E
.
2
.
1
,
 
4
8
,
 
.
i
n
l
 
t
_
2
5
.
2
.
2
.
2
.
2
.
1
.
2
)
)
,
 
(
h
e
1
,
 
.
i
n
r
 
(
6
,
 
[
.
r
e
f
 
a
e
1
,
 
.
i
n
t
 
t
_
2
5
.
2
.
2
.
2
.
2
.
2
.
1
.
1
]
)
)
,
 
(
a
e
1
,
 
.
i
n
l
 
(
E
.
2
.
1
,
 
4
8
,
 
.
i
n
l
 
t
_
2
5
.
2
.
2
.
2
.
2
.
2
.
1
.
2
)
)
,
 
(
h
t
,
 
.
i
n
r
 
(
9
,
 
[
.
r
e
f
 
h
s
m
,
 
.
r
e
f
 
h
g
r
,
 
.
r
e
f
 
h
s
r
,
 
.
r
e
f
 
h
b
l
,
 
.
r
e
f
 
h
t
e
x
t
,
 
.
r
e
f
 
h
s
u
m
]
)
)
,
 
(
h
s
m
,
 
.
i
n
r
 
(
7
,
 
[
.
r
e
f
 
q
b
s
m
,
 
.
r
e
f
 
q
s
s
m
]
)
)
,
 
(
q
b
s
m
,
 
.
i
n
l
 
(
E
.
2
.
1
,
 
1
6
,
 
.
i
n
l
 
t
_
2
5
.
2
.
2
.
2
.
2
.
2
.
2
.
1
)
)
,
 
(
q
s
s
m
,
 
.
i
n
l
 
(
E
.
2
.
1
,
 
4
,
 
.
i
n
l
 
t
_
2
5
.
2
.
2
.
2
.
2
.
2
.
2
.
2
.
1
)
)
,
 
(
h
s
r
,
 
.
i
n
r
 
(
8
,
 
[
.
r
e
f
 
q
m
s
r
]
)
)
,
 
(
q
m
s
r
,
 
.
i
n
l
 
(
E
.
2
.
1
,
 
2
5
6
,
 
.
i
n
l
 
t
_
2
5
.
2
.
2
.
2
.
2
.
2
.
2
.
2
.
2
.
1
)
)
,
 
(
h
t
e
x
t
,
 
.
i
n
r
 
(
6
,
 
[
.
r
e
f
 
a
t
e
x
t
,
 
.
i
n
t
 
t
_
2
5
.
2
.
2
.
2
.
2
.
2
.
2
.
2
.
2
.
2
.
1
.
1
]
)
)
,
 
(
a
t
e
x
t
,
 
.
i
n
l
 
(
E
.
2
.
1
,
 
4
3
2
,
 
.
i
n
l
 
t
_
2
5
.
2
.
2
.
2
.
2
.
2
.
2
.
2
.
2
.
2
.
1
.
2
)
)
,
 
(
h
s
u
m
,
 
.
i
n
r
 
(
6
,
 
[
.
r
e
f
 
a
s
u
m
,
 
.
i
n
t
 
t
_
2
5
.
2
.
2
.
2
.
2
.
2
.
2
.
2
.
2
.
2
.
2
.
1
.
1
]
)
)
,
 
(
a
s
u
m
,
 
.
i
n
l
 
(
E
.
2
.
1
,
 
3
2
,
 
.
i
n
l
 
t
_
2
5
.
2
.
2
.
2
.
2
.
2
.
2
.
2
.
2
.
2
.
2
.
1
.
2
)
)
,
 
(
h
p
a
d
,
 
.
i
n
r
 
(
6
,
 
[
.
r
e
f
 
a
p
a
d
,
 
.
i
n
t
 
t
_
2
5
.
2
.
2
.
2
.
2
.
2
.
2
.
2
.
2
.
2
.
2
.
2
.
1
.
1
]
)
)
,
 
(
a
p
a
d
,
 
.
i
n
l
 
(
E
.
2
.
1
,
 
3
2
,
 
.
i
n
l
 
t
_
2
5
.
2
.
2
.
2
.
2
.
2
.
2
.
2
.
2
.
2
.
2
.
2
.
1
.
2
)
)
,
 
(
h
c
o
l
,
 
.
i
n
r
 
(
6
,
 
[
.
r
e
f
 
a
c
o
l
,
 
.
i
n
t
 
t
_
2
5
.
2
.
2
.
2
.
2
.
2
.
2
.
2
.
2
.
2
.
2
.
2
.
2
.
1
]
)
)
,
 
(
a
o
u
t
,
 
.
i
n
l
 
(
c
L
,
 
1
,
 
.
i
n
r
 
(
.
i
n
l
 
(
v
p
_
u
p
d
L
 
g
g
 
(
0
 
:
 
I
n
t
3
2
)
.
t
o
N
a
t
C
l
a
m
p
N
e
g
 
(
t
_
2
5
.
2
.
1
.
t
o
I
n
t
6
4
)
)
)
)
)
]
)
 
[
1
,
 
2
,
 
3
,
 
4
,
 
5
,
 
6
,
 
7
,
 
8
,
 
9
,
 
1
0
,
 
1
1
,
 
1
2
,
 
1
3
,
 
1
4
,
 
1
5
,
 
1
6
,
 
1
7
,
 
1
8
,
 
1
9
,
 
2
0
,
 
2
1
,
 
2
2
,
 
2
3
,
 
2
4
,
 
2
5
,
 
2
6
,
 
2
7
,
 
2
8
,
 
2
9
,
 
0
]
 
(
b
y
 
d
e
c
i
d
e
)
 
r
f
l


 
 
 
 
e
x
a
c
t
 
W
.
i
r
e
t
 
(
v
 
:
=
 
0
)
 
h
x
 
h
b
 
h
r
 
(
f
u
n
 
t
 
h
t
 
h
W
 
=
>
 
⟨
⟨
0
,
 
(
t
_
2
5
.
2
.
2
.
1
,
 
(
t
_
2
5
.
2
.
2
.
2
.
1
.
1
,
 
X
s
e
c
r
e
t
.
2
)
,
 
t
_
2
5
.
2
.
2
.
2
.
2
.
1
,
 
t
_
2
5
.
2
.
2
.
2
.
2
.
2
.
1
,
 
t
_
2
5
.
2
.
2
.
2
.
2
.
2
.
2
.
1
,
 
t
_
2
5
.
2
.
2
.
2
.
2
.
2
.
2
.
2
.
1
,
 
t
_
2
5
.
2
.
2
.
2
.
2
.
2
.
2
.
2
.
2
.
1
,
 
t
_
2
5
.
2
.
2
.
2
.
2
.
2
.
2
.
2
.
2
.
2
.
1
,
 
t
_
2
5
.
2
.
2
.
2
.
2
.
2
.
2
.
2
.
2
.
2
.
2
.
1
,
 
t
_
2
5
.
2
.
2
.
2
.
2
.
2
.
2
.
2
.
2
.
2
.
2
.
2
.
1
,
 
(
t
_
2
5
.
2
.
2
.
2
.
2
.
2
.
2
.
2
.
2
.
2
.
2
.
2
.
2
.
1
,
 
X
c
o
l
.
2
)
,
 
(
v
p
_
u
p
d
L
 
g
g
 
(
0
 
:
 
I
n
t
3
2
)
.
t
o
N
a
t
C
l
a
m
p
N
e
g
 
(
t
_
2
5
.
2
.
1
.
t
o
I
n
t
6
4
)
)
)
,
 
r
f
l
,
 
⟨
c
o
n
g
r
A
r
g
 
P
r
o
d
.
f
s
t
 
h
p
o
s
t
,
 
c
o
n
g
r
A
r
g
 
P
r
o
d
.
s
n
d
 
h
p
o
s
t
⟩
,
 
b
y
 
r
w
 
[
h
t
]
;
 
e
x
a
c
t
 
h
P
9
,
 
h
D
9
⟩
,
 
h
S
_
3
3
.
F
 
h
t
⟩
)
 
h
S
_
3
3
.
2
.
2
 
d
L
_
m
a
k
e
_
1
6


s
e
t
_
o
p
t
i
o
n
 
m
a
x
H
e
a
r
t
b
e
a
t
s
 
4
0
0
0
0
0
0
 
i
n


s
e
t
_
o
p
t
i
o
n
 
m
a
x
R
e
c
D
e
p
t
h
 
1
0
0
0
0
0
 
i
n


t
h
e
o
r
e
m
 
k
_
L
_
e
n
t
r
y
_
e
 
(
E
 
:
 
g
E
)
 
(
s
a
 
:
 
N
a
t
 
→
 
N
a
t
)
 
(
c
L
 
:
 
C
l
a
s
s
I
d
)
 
(
l
 
:
 
L
a
u
n
c
h
)
 
(
h
s
t
 
:
 
l
.
s
t
a
c
k
T
r
a
c
e
s
 
=
 
f
a
l
s
e
)
 
(
h
 
a
o
u
t
 
h
l
k
 
h
v
 
h
t
 
h
c
o
l
 
h
a
n
s
 
h
u
s
e
r
 
h
o
w
n
e
r
 
h
t
r
i
e
d
 
h
i
d
e
n
t
 
h
t
a
p
e
 
h
s
e
c
r
e
t
 
q
e
n
t
 
h
n
o
e
 
h
e
0
 
h
e
1
 
a
e
0
 
a
e
1
 
a
n
o
e
 
:
 
N
a
t
)
 
(
r
v
 
:
 
N
a
t
)
 
(
c
f
o
r
 
:
 
I
n
t
3
2
)
 
(
c
b
a
c
k
 
:
 
I
n
t
3
2
)
 
(
f
i
l
t
 
:
 
I
n
t
3
2
)
 
(
g
i
v
e
n
 
:
 
I
n
t
3
2
)
 
(
p
e
r
m
 
:
 
I
n
t
3
2
)
 
(
p
l
a
i
n
 
:
 
I
n
t
3
2
)
 
(
X
e
0
 
:
 
g
R
o
w
)
 
(
X
e
1
 
:
 
g
R
o
w
)
 
(
X
n
o
e
 
:
 
g
R
o
w
)
 
(
g
g
 
:
 
N
a
t
 
→
 
I
n
t
6
4
)
 
(
w
h
i
c
h
 
:
 
I
n
t
3
2
)
 
(
v
i
 
:
 
I
n
t
3
2
)
 
:
 
g
H
i
 
E
 
s
a
 
c
L
 
l
 
y
L
_
e
n
t
r
y
 
w
s
L
_
e
n
t
r
y
 
(
{
 
f
r
a
m
e
s
 
:
=
 
7
,
 
c
e
l
l
s
 
:
=
 
1
,
 
s
l
o
t
s
 
:
=
 
6
,
 
l
o
c
a
l
s
 
:
=
 
1
0
5
 
}
)
 
1
 
6
 
[
.
r
e
f
 
h
,
 
.
i
n
t
 
w
h
i
c
h
,
 
.
i
n
t
 
v
i
,
 
.
r
e
f
 
a
o
u
t
]
 
[
(
h
,
 
.
i
n
r
 
(
1
1
,
 
[
.
r
e
f
 
h
l
k
,
 
.
r
e
f
 
h
v
,
 
.
r
e
f
 
h
t
,
 
.
r
e
f
 
h
c
o
l
,
 
.
r
e
f
 
h
a
n
s
,
 
.
i
n
t
 
c
f
o
r
,
 
.
i
n
t
 
c
b
a
c
k
,
 
.
i
n
t
 
f
i
l
t
]
)
)
,
 
(
h
v
,
 
.
i
n
r
 
(
1
0
,
 
[
.
i
n
t
 
(
n
I
 
r
v
)
,
 
.
r
e
f
 
h
u
s
e
r
,
 
.
r
e
f
 
h
o
w
n
e
r
,
 
.
r
e
f
 
h
t
r
i
e
d
,
 
.
r
e
f
 
h
i
d
e
n
t
,
 
.
r
e
f
 
h
t
a
p
e
,
 
.
i
n
t
 
g
i
v
e
n
,
 
.
r
e
f
 
h
s
e
c
r
e
t
,
 
.
r
e
f
 
q
e
n
t
,
 
.
r
e
f
 
h
n
o
e
,
 
.
i
n
t
 
p
e
r
m
,
 
.
i
n
t
 
p
l
a
i
n
]
)
)
,
 
(
q
e
n
t
,
 
.
i
n
l
 
(
E
.
2
.
2
.
1
,
 
2
,
 
.
i
n
r
 
(
.
i
n
r
 
(
.
i
n
r
 
(
.
i
n
r
 
(
g
E
n
t
 
[
h
e
0
,
 
h
e
1
]
)
)
)
)
)
)
,
 
(
h
e
0
,
 
.
i
n
r
 
(
6
,
 
[
.
r
e
f
 
a
e
0
,
 
.
i
n
t
 
X
e
0
.
1
]
)
)
,
 
(
a
e
0
,
 
.
i
n
l
 
(
E
.
2
.
1
,
 
4
8
,
 
.
i
n
l
 
X
e
0
.
2
)
)
,
 
(
h
e
1
,
 
.
i
n
r
 
(
6
,
 
[
.
r
e
f
 
a
e
1
,
 
.
i
n
t
 
X
e
1
.
1
]
)
)
,
 
(
a
e
1
,
 
.
i
n
l
 
(
E
.
2
.
1
,
 
4
8
,
 
.
i
n
l
 
X
e
1
.
2
)
)
,
 
(
h
n
o
e
,
 
.
i
n
r
 
(
6
,
 
[
.
r
e
f
 
a
n
o
e
,
 
.
i
n
t
 
X
n
o
e
.
1
]
)
)
,
 
(
a
n
o
e
,
 
.
i
n
l
 
(
E
.
2
.
1
,
 
0
,
 
.
i
n
l
 
X
n
o
e
.
2
)
)
,
 
(
a
o
u
t
,
 
.
i
n
l
 
(
c
L
,
 
1
,
 
.
i
n
r
 
(
.
i
n
l
 
g
g
)
)
)
]
 
(
f
u
n
 
(
r
r
 
:
 
I
n
t
3
2
)
 
(
u
u
 
:
 
N
a
t
 
→
 
I
n
t
6
4
)
 
=
>
 
r
r
 
=
 
(
F
_
L
_
e
n
t
r
y
_
e
 
X
e
0
 
X
e
1
 
X
n
o
e
 
g
g
 
w
h
i
c
h
 
v
i
)
.
1
 
∧
 
u
u
 
=
 
(
F
_
L
_
e
n
t
r
y
_
e
 
X
e
0
 
X
e
1
 
X
n
o
e
 
g
g
 
w
h
i
c
h
 
v
i
)
.
2
)
 
(
f
u
n
 
(
u
u
 
:
 
N
a
t
 
→
 
I
n
t
6
4
)
 
=
>
 
[
(
h
,
 
.
i
n
r
 
(
1
1
,
 
[
.
r
e
f
 
h
l
k
,
 
.
r
e
f
 
h
v
,
 
.
r
e
f
 
h
t
,
 
.
r
e
f
 
h
c
o
l
,
 
.
r
e
f
 
h
a
n
s
,
 
.
i
n
t
 
c
f
o
r
,
 
.
i
n
t
 
c
b
a
c
k
,
 
.
i
n
t
 
f
i
l
t
]
)
)
,
 
(
h
v
,
 
.
i
n
r
 
(
1
0
,
 
[
.
i
n
t
 
(
n
I
 
r
v
)
,
 
.
r
e
f
 
h
u
s
e
r
,
 
.
r
e
f
 
h
o
w
n
e
r
,
 
.
r
e
f
 
h
t
r
i
e
d
,
 
.
r
e
f
 
h
i
d
e
n
t
,
 
.
r
e
f
 
h
t
a
p
e
,
 
.
i
n
t
 
g
i
v
e
n
,
 
.
r
e
f
 
h
s
e
c
r
e
t
,
 
.
r
e
f
 
q
e
n
t
,
 
.
r
e
f
 
h
n
o
e
,
 
.
i
n
t
 
p
e
r
m
,
 
.
i
n
t
 
p
l
a
i
n
]
)
)
,
 
(
q
e
n
t
,
 
.
i
n
l
 
(
E
.
2
.
2
.
1
,
 
2
,
 
.
i
n
r
 
(
.
i
n
r
 
(
.
i
n
r
 
(
.
i
n
r
 
(
g
E
n
t
 
[
h
e
0
,
 
h
e
1
]
)
)
)
)
)
)
,
 
(
h
e
0
,
 
.
i
n
r
 
(
6
,
 
[
.
r
e
f
 
a
e
0
,
 
.
i
n
t
 
X
e
0
.
1
]
)
)
,
 
(
a
e
0
,
 
.
i
n
l
 
(
E
.
2
.
1
,
 
4
8
,
 
.
i
n
l
 
X
e
0
.
2
)
)
,
 
(
h
e
1
,
 
.
i
n
r
 
(
6
,
 
[
.
r
e
f
 
a
e
1
,
 
.
i
n
t
 
X
e
1
.
1
]
)
)
,
 
(
a
e
1
,
 
.
i
n
l
 
(
E
.
2
.
1
,
 
4
8
,
 
.
i
n
l
 
X
e
1
.
2
)
)
,
 
(
h
n
o
e
,
 
.
i
n
r
 
(
6
,
 
[
.
r
e
f
 
a
n
o
e
,
 
.
i
n
t
 
X
n
o
e
.
1
]
)
)
,
 
(
a
n
o
e
,
 
.
i
n
l
 
(
E
.
2
.
1
,
 
0
,
 
.
i
n
l
 
X
n
o
e
.
2
)
)
,
 
(
a
o
u
t
,
 
.
i
n
l
 
(
c
L
,
 
1
,
 
.
i
n
r
 
(
.
i
n
l
 
u
u
)
)
)
]
)
 
:
=
 
b
y


 
 
i
n
t
r
o
 
s
z


 
 
r
e
f
i
n
e
 
v
x
_
o
f
W
H
 
(
h
h
 
:
=
 
[
(
0
,
 
1
0
,
 
1
3
,
 
3
2
)
]
)
 
(
c
c
 
:
=
 
c
L
_
e
n
t
r
y
)
 
(
m
a
x
L
 
:
=
 
5
)
 
(
r
e
t
 
:
=
 
(
s
o
m
e
 
.
i
n
t
)
)
 
(
b
y
 
d
e
c
i
d
e
)
 
r
f
l
 
?
_


 
 
i
n
t
r
o
 
p
 
e
 
s
 
m
 
a
r
g
s
 
b
e
l
o
w
 
m
e
t
h
 
c
 
s
₁
 
B
 
h
m
l
 
h
v


 
 
o
b
t
a
i
n
 
⟨
r
f
l
,
 
h
s
z
,
 
h
P
,
 
⟨
h
V
,
 
h
X
,
 
h
L
⟩
,
 
h
D
0
⟩
 
:
=
 
h
v


 
 
h
a
v
e
 
h
x
 
:
=
 
B
.
e
x
e
c


 
 
h
a
v
e
 
h
b
 
:
=
 
B
.
b
y
t
e
s


 
 
h
a
v
e
 
h
r
 
:
=
 
B
.
r
e
t
u
r
n
s


 
 
h
a
v
e
 
h
t
s
 
:
=
 
a
t
o
m
s
_
s
p
e
c
 
(
w
s
 
:
=
 
w
s
L
_
e
n
t
r
y
)
 
B
.
p
r
e


 
 
h
a
v
e
 
h
o
w
n
 
:
 
s
.
v
m
.
f
i
n
d
C
l
a
s
s
 
R
L
 
=
 
s
o
m
e
 
m
.
c
l
s
 
:
=
 
f
i
n
d
C
l
a
s
s
_
o
f
_
m
e
t
h
o
d
N
a
m
e
d
 
B
.
n
a
m
e
d


 
 
h
a
v
e
 
h
l
o
c
k
s
 
:
=
 
B
.
n
o
t
S
y
n
c
h
r
o
n
i
z
e
d


 
 
h
a
v
e
 
h
t
a
b
 
:
=
 
v
x
_
t
a
b
l
e
 
B
 
(
h
t
s
 
(
.
c
o
d
e
W
i
t
h
 
y
L
_
e
n
t
r
y
 
c
L
_
e
n
t
r
y
 
5
 
(
s
o
m
e
 
.
i
n
t
)
 
[
(
0
,
 
1
0
,
 
1
3
,
 
3
2
)
]
)
 
(
b
y
 
d
e
c
i
d
e
 
+
k
e
r
n
e
l
)
)


 
 
s
u
b
s
t
 
h
s
z


 
 
h
a
v
e
 
h
D
 
:
=
 
h
D
0
.
s
e
l
f
 
(
s
z
 
:
=
 
s
.
h
e
a
p
.
s
i
z
e
)


 
 
c
l
e
a
r
 
h
D
0


 
 
g
e
n
e
r
a
l
i
z
e
 
h
A
e
 
:
 
v
a
_
A
 
[
(
h
,
 
.
i
n
r
 
(
1
1
,
 
[
.
r
e
f
 
h
l
k
,
 
.
r
e
f
 
h
v
,
 
.
r
e
f
 
h
t
,
 
.
r
e
f
 
h
c
o
l
,
 
.
r
e
f
 
h
a
n
s
,
 
.
i
n
t
 
c
f
o
r
,
 
.
i
n
t
 
c
b
a
c
k
,
 
.
i
n
t
 
f
i
l
t
]
)
)
,
 
(
h
v
,
 
.
i
n
r
 
(
1
0
,
 
[
.
i
n
t
 
(
n
I
 
r
v
)
,
 
.
r
e
f
 
h
u
s
e
r
,
 
.
r
e
f
 
h
o
w
n
e
r
,
 
.
r
e
f
 
h
t
r
i
e
d
,
 
.
r
e
f
 
h
i
d
e
n
t
,
 
.
r
e
f
 
h
t
a
p
e
,
 
.
i
n
t
 
g
i
v
e
n
,
 
.
r
e
f
 
h
s
e
c
r
e
t
,
 
.
r
e
f
 
q
e
n
t
,
 
.
r
e
f
 
h
n
o
e
,
 
.
i
n
t
 
p
e
r
m
,
 
.
i
n
t
 
p
l
a
i
n
]
)
)
,
 
(
q
e
n
t
,
 
.
i
n
l
 
(
E
.
2
.
2
.
1
,
 
2
,
 
.
i
n
r
 
(
.
i
n
r
 
(
.
i
n
r
 
(
.
i
n
r
 
(
g
E
n
t
 
[
h
e
0
,
 
h
e
1
]
)
)
)
)
)
)
,
 
(
h
e
0
,
 
.
i
n
r
 
(
6
,
 
[
.
r
e
f
 
a
e
0
,
 
.
i
n
t
 
X
e
0
.
1
]
)
)
,
 
(
a
e
0
,
 
.
i
n
l
 
(
E
.
2
.
1
,
 
4
8
,
 
.
i
n
l
 
X
e
0
.
2
)
)
,
 
(
h
e
1
,
 
.
i
n
r
 
(
6
,
 
[
.
r
e
f
 
a
e
1
,
 
.
i
n
t
 
X
e
1
.
1
]
)
)
,
 
(
a
e
1
,
 
.
i
n
l
 
(
E
.
2
.
1
,
 
4
8
,
 
.
i
n
l
 
X
e
1
.
2
)
)
,
 
(
h
n
o
e
,
 
.
i
n
r
 
(
6
,
 
[
.
r
e
f
 
a
n
o
e
,
 
.
i
n
t
 
X
n
o
e
.
1
]
)
)
,
 
(
a
n
o
e
,
 
.
i
n
l
 
(
E
.
2
.
1
,
 
0
,
 
.
i
n
l
 
X
n
o
e
.
2
)
)
,
 
(
a
o
u
t
,
 
.
i
n
l
 
(
c
L
,
 
1
,
 
.
i
n
r
 
(
.
i
n
l
 
g
g
)
)
)
]
 
s
.
h
e
a
p
.
s
i
z
e
 
=
 
A
 
a
t
 
h
D
 
h
V
 
h
X
 
⊢


 
 
h
a
v
e
 
h
A
 
:
 
∀
 
q
 
:
 
N
a
t
,
 
s
.
h
e
a
p
.
s
i
z
e
 
≤
 
q
 
→
 
A
 
q
 
:
=
 
f
u
n
 
q
 
h
 
=
>
 
b
y
 
r
w
 
[
←
 
h
A
e
]
;
 
e
x
a
c
t
 
O
r
.
i
n
r
 
h


 
 
h
a
v
e
 
h
S
 
:
 
v
a
_
S
 
A
 
s
.
h
e
a
p
 
s
.
h
e
a
p
 
[
]
 
:
=
 
v
a
_
S
.
r
f


 
 
h
a
v
e
 
h
K
 
:
=
 
h
V
.
1


 
 
h
a
v
e
 
h
F
 
:
 
C
a
l
l
F
i
x
 
p
 
m
 
c
 
c
L
_
e
n
t
r
y
 
5
 
s
 
_
 
w
s
L
_
e
n
t
r
y
 
R
L
 
:
=
 
⟨
h
x
,
 
h
b
,
 
h
m
l
,
 
h
o
w
n
,
 
h
t
s
⟩


 
 
h
a
v
e
 
h
l
 
:
=
 
l
v
_
e
n
t
r
y
 
[
.
r
e
f
 
h
,
 
.
i
n
t
 
w
h
i
c
h
,
 
.
i
n
t
 
v
i
,
 
.
r
e
f
 
a
o
u
t
]
 
(
n
 
:
=
 
5
)
 
(
N
a
t
.
l
e
_
o
f
_
b
l
e
_
e
q
_
t
r
u
e
 
r
f
l
)


 
 
r
w
 
[
l
g
_
e
n
t
r
y
_
e
q
]


 
 
g
e
n
e
r
a
l
i
z
e
 
(
l
g
_
s
l
 
[
.
r
e
f
 
h
,
 
.
i
n
t
 
w
h
i
c
h
,
 
.
i
n
t
 
v
i
,
 
.
r
e
f
 
a
o
u
t
]
 
+
+
 
L
i
s
t
.
r
e
p
l
i
c
a
t
e
 
(
5
 
-
 
(
l
g
_
s
l
 
[
.
r
e
f
 
h
,
 
.
i
n
t
 
w
h
i
c
h
,
 
.
i
n
t
 
v
i
,
 
.
r
e
f
 
a
o
u
t
]
)
.
l
e
n
g
t
h
)
 
S
l
o
t
.
u
n
s
e
t
)
.
t
o
A
r
r
a
y
 
=
 
l
s
 
a
t
 
h
l
 
⊢


 
 
h
a
v
e
 
h
l
 
:
 
l
v
_
h
a
s
 
l
s
 
5
 
[
(
0
,
 
.
r
e
f
 
h
)
,
 
(
1
,
 
.
i
n
t
 
w
h
i
c
h
)
,
 
(
2
,
 
.
i
n
t
 
v
i
)
,
 
(
3
,
 
.
r
e
f
 
a
o
u
t
)
]
 
:
=
 
h
l


 
 
h
a
v
e
 
w
_
0
 
:
=
 
h
t
s
 
(
.
c
l
a
s
s
L
i
n
k
 
R
L
 
3
2
 
"
j
a
v
a
/
l
a
n
g
/
I
n
d
e
x
O
u
t
O
f
B
o
u
n
d
s
E
x
c
e
p
t
i
o
n
"
)
 
(
b
y
 
d
e
c
i
d
e
 
+
k
e
r
n
e
l
)


 
 
r
e
f
i
n
e
 
l
v
_
a
l
o
a
d
_
n
 
h
x
 
h
b
 
d
L
_
e
n
t
r
y
_
0
 
r
f
l
 
(
l
v
_
a
t
 
h
l
 
3
 
r
f
l
)
 
?
_


 
 
r
e
f
i
n
e
 
l
v
_
i
c
o
n
s
t
 
(
v
 
:
=
 
0
)
 
h
x
 
h
b
 
d
L
_
e
n
t
r
y
_
1
 
(
b
y
 
d
e
c
i
d
e
)
 
?
_


 
 
r
e
f
i
n
e
 
l
v
_
a
l
o
a
d
_
n
 
h
x
 
h
b
 
d
L
_
e
n
t
r
y
_
2
 
r
f
l
 
(
l
v
_
a
t
 
h
l
 
0
 
r
f
l
)
 
?
_


 
 
r
e
f
i
n
e
 
l
v
_
i
l
o
a
d
_
n
 
h
x
 
h
b
 
d
L
_
e
n
t
r
y
_
3
 
r
f
l
 
(
l
v
_
a
t
 
h
l
 
1
 
r
f
l
)
 
?
_


 
 
r
e
f
i
n
e
 
l
v
_
i
l
o
a
d
_
n
 
h
x
 
h
b
 
d
L
_
e
n
t
r
y
_
4
 
r
f
l
 
(
l
v
_
a
t
 
h
l
 
2
 
r
f
l
)
 
?
_


 
 
o
b
t
a
i
n
 
⟨
t
_
2
5
,
 
h
t
_
2
5
⟩
 
:
 
∃
 
t
9
 
:
 
N
a
t
 
×
 
I
n
t
3
2
,
 
t
9
 
=
 
F
_
X
1
0
_
e
n
t
r
y
_
e
 
X
e
0
 
X
e
1
 
X
n
o
e
 
w
h
i
c
h
 
v
i
 
:
=
 
⟨
_
,
 
r
f
l
⟩


 
 
r
e
f
i
n
e
 
g
T
V
i
 
h
F
 
h
l
 
h
V
 
h
X
 
h
P
 
h
D
 
h
S
 
h
A
 
[
0
,
 
1
,
 
2
,
 
3
,
 
4
,
 
5
,
 
6
,
 
7
,
 
8
]
 
[
9
]
 
(
w
c
 
:
=
 
[
(
h
,
 
.
i
n
r
 
(
1
1
,
 
[
.
r
e
f
 
h
l
k
,
 
.
r
e
f
 
h
v
,
 
.
r
e
f
 
h
t
,
 
.
r
e
f
 
h
c
o
l
,
 
.
r
e
f
 
h
a
n
s
,
 
.
i
n
t
 
c
f
o
r
,
 
.
i
n
t
 
c
b
a
c
k
,
 
.
i
n
t
 
f
i
l
t
]
)
)
,
 
(
h
v
,
 
.
i
n
r
 
(
1
0
,
 
[
.
i
n
t
 
(
n
I
 
r
v
)
,
 
.
r
e
f
 
h
u
s
e
r
,
 
.
r
e
f
 
h
o
w
n
e
r
,
 
.
r
e
f
 
h
t
r
i
e
d
,
 
.
r
e
f
 
h
i
d
e
n
t
,
 
.
r
e
f
 
h
t
a
p
e
,
 
.
i
n
t
 
g
i
v
e
n
,
 
.
r
e
f
 
h
s
e
c
r
e
t
,
 
.
r
e
f
 
q
e
n
t
,
 
.
r
e
f
 
h
n
o
e
,
 
.
i
n
t
 
p
e
r
m
,
 
.
i
n
t
 
p
l
a
i
n
]
)
)
,
 
(
q
e
n
t
,
 
.
i
n
l
 
(
E
.
2
.
2
.
1
,
 
2
,
 
.
i
n
r
 
(
.
i
n
r
 
(
.
i
n
r
 
(
.
i
n
r
 
(
g
E
n
t
 
[
h
e
0
,
 
h
e
1
]
)
)
)
)
)
)
,
 
(
h
e
0
,
 
.
i
n
r
 
(
6
,
 
[
.
r
e
f
 
a
e
0
,
 
.
i
n
t
 
X
e
0
.
1
]
)
)
,
 
(
a
e
0
,
 
.
i
n
l
 
(
E
.
2
.
1
,
 
4
8
,
 
.
i
n
l
 
X
e
0
.
2
)
)
,
 
(
h
e
1
,
 
.
i
n
r
 
(
6
,
 
[
.
r
e
f
 
a
e
1
,
 
.
i
n
t
 
X
e
1
.
1
]
)
)
,
 
(
a
e
1
,
 
.
i
n
l
 
(
E
.
2
.
1
,
 
4
8
,
 
.
i
n
l
 
X
e
1
.
2
)
)
,
 
(
h
n
o
e
,
 
.
i
n
r
 
(
6
,
 
[
.
r
e
f
 
a
n
o
e
,
 
.
i
n
t
 
X
n
o
e
.
1
]
)
)
,
 
(
a
n
o
e
,
 
.
i
n
l
 
(
E
.
2
.
1
,
 
0
,
 
.
i
n
l
 
X
n
o
e
.
2
)
)
]
)
 
(
w
r
 
:
=
 
[
(
a
o
u
t
,
 
.
i
n
l
 
(
c
L
,
 
1
,
 
.
i
n
r
 
(
.
i
n
l
 
g
g
)
)
)
]
)
 
r
f
l
 
r
f
l
 
r
f
l
 
(
b
y
 
d
e
c
i
d
e
)
 
0
 
1
1
 
r
f
l
 
r
f
l
 
r
f
l
 
(
k
_
X
1
0
_
e
n
t
r
y
_
e
 
E
 
s
a
 
l
 
h
s
t
 
h
 
h
l
k
 
h
v
 
h
t
 
h
c
o
l
 
h
a
n
s
 
h
u
s
e
r
 
h
o
w
n
e
r
 
h
t
r
i
e
d
 
h
i
d
e
n
t
 
h
t
a
p
e
 
h
s
e
c
r
e
t
 
q
e
n
t
 
h
n
o
e
 
h
e
0
 
h
e
1
 
a
e
0
 
a
e
1
 
a
n
o
e
 
r
v
 
c
f
o
r
 
c
b
a
c
k
 
f
i
l
t
 
g
i
v
e
n
 
p
e
r
m
 
p
l
a
i
n
 
X
e
0
 
X
e
1
 
X
n
o
e
 
w
h
i
c
h
 
v
i
)
 
(
c
w
V
 
2
 
h
t
s
 
g
L
_
e
n
t
r
y
_
X
1
0
_
e
n
t
r
y
 
r
f
l
 
r
f
l
 
r
f
l
 
(
b
y
 
d
e
c
i
d
e
 
+
k
e
r
n
e
l
)
 
⟨
N
a
t
.
l
e
_
o
f
_
b
l
e
_
e
q
_
t
r
u
e
 
r
f
l
,
 
N
a
t
.
l
e
_
o
f
_
b
l
e
_
e
q
_
t
r
u
e
 
r
f
l
⟩
)
 
r
f
l
 
r
f
l
 
r
f
l
 
(
N
a
t
.
l
e
_
o
f
_
b
l
e
_
e
q
_
t
r
u
e
 
r
f
l
)
 
d
L
_
e
n
t
r
y
_
5
 
⟨
N
a
t
.
l
e
_
o
f
_
b
l
e
_
e
q
_
t
r
u
e
 
r
f
l
,
 
N
a
t
.
l
e
_
o
f
_
b
l
e
_
e
q
_
t
r
u
e
 
r
f
l
⟩
 
(
f
u
n
 
n
m
_
2
6
 
c
e
_
2
6
 
q
_
2
6
 
H
_
2
7
 
l
o
c
s
_
2
7
 
p
x
_
2
6
 
h
P
_
2
7
 
h
D
_
2
7
 
h
S
_
2
7
 
h
c
e
_
2
6
 
h
c
v
_
2
6
 
h
c
l
_
2
6
 
=
>
 
?
_
)
 
(
f
u
n
 
r
_
2
3
 
_
 
H
_
2
4
 
l
o
c
s
_
2
4
 
h
u
_
2
3
 
h
P
_
2
4
 
h
D
_
2
4
 
h
S
_
2
4
 
=
>
 
?
_
)


 
 
·
 
r
e
p
l
a
c
e
 
h
P
_
2
7
 
:
 
v
a
_
P
 
E
.
1
 
v
w
C
l
 
[
(
a
o
u
t
,
 
.
i
n
l
 
(
c
L
,
 
1
,
 
.
i
n
r
 
(
.
i
n
l
 
g
g
)
)
)
,
 
(
h
,
 
.
i
n
r
 
(
1
1
,
 
[
.
r
e
f
 
h
l
k
,
 
.
r
e
f
 
h
v
,
 
.
r
e
f
 
h
t
,
 
.
r
e
f
 
h
c
o
l
,
 
.
r
e
f
 
h
a
n
s
,
 
.
i
n
t
 
c
f
o
r
,
 
.
i
n
t
 
c
b
a
c
k
,
 
.
i
n
t
 
f
i
l
t
]
)
)
,
 
(
h
v
,
 
.
i
n
r
 
(
1
0
,
 
[
.
i
n
t
 
(
n
I
 
r
v
)
,
 
.
r
e
f
 
h
u
s
e
r
,
 
.
r
e
f
 
h
o
w
n
e
r
,
 
.
r
e
f
 
h
t
r
i
e
d
,
 
.
r
e
f
 
h
i
d
e
n
t
,
 
.
r
e
f
 
h
t
a
p
e
,
 
.
i
n
t
 
g
i
v
e
n
,
 
.
r
e
f
 
h
s
e
c
r
e
t
,
 
.
r
e
f
 
q
e
n
t
,
 
.
r
e
f
 
h
n
o
e
,
 
.
i
n
t
 
p
e
r
m
,
 
.
i
n
t
 
p
l
a
i
n
]
)
)
,
 
(
q
e
n
t
,
 
.
i
n
l
 
(
E
.
2
.
2
.
1
,
 
2
,
 
.
i
n
r
 
(
.
i
n
r
 
(
.
i
n
r
 
(
.
i
n
r
 
(
g
E
n
t
 
[
h
e
0
,
 
h
e
1
]
)
)
)
)
)
)
,
 
(
h
e
0
,
 
.
i
n
r
 
(
6
,
 
[
.
r
e
f
 
a
e
0
,
 
.
i
n
t
 
X
e
0
.
1
]
)
)
,
 
(
a
e
0
,
 
.
i
n
l
 
(
E
.
2
.
1
,
 
4
8
,
 
.
i
n
l
 
X
e
0
.
2
)
)
,
 
(
h
e
1
,
 
.
i
n
r
 
(
6
,
 
[
.
r
e
f
 
a
e
1
,
 
.
i
n
t
 
X
e
1
.
1
]
)
)
,
 
(
a
e
1
,
 
.
i
n
l
 
(
E
.
2
.
1
,
 
4
8
,
 
.
i
n
l
 
X
e
1
.
2
)
)
,
 
(
h
n
o
e
,
 
.
i
n
r
 
(
6
,
 
[
.
r
e
f
 
a
n
o
e
,
 
.
i
n
t
 
X
n
o
e
.
1
]
)
)
,
 
(
a
n
o
e
,
 
.
i
n
l
 
(
E
.
2
.
1
,
 
0
,
 
.
i
n
l
 
X
n
o
e
.
2
)
)
]
 
H
_
2
7
 
:
=
 
h
P
_
2
7


 
 
 
 
r
e
p
l
a
c
e
 
h
D
_
2
7
 
:
 
v
a
_
D
 
A
 
[
(
a
o
u
t
,
 
.
i
n
l
 
(
c
L
,
 
1
,
 
.
i
n
r
 
(
.
i
n
l
 
g
g
)
)
)
,
 
(
h
,
 
.
i
n
r
 
(
1
1
,
 
[
.
r
e
f
 
h
l
k
,
 
.
r
e
f
 
h
v
,
 
.
r
e
f
 
h
t
,
 
.
r
e
f
 
h
c
o
l
,
 
.
r
e
f
 
h
a
n
s
,
 
.
i
n
t
 
c
f
o
r
,
 
.
i
n
t
 
c
b
a
c
k
,
 
.
i
n
t
 
f
i
l
t
]
)
)
,
 
(
h
v
,
 
.
i
n
r
 
(
1
0
,
 
[
.
i
n
t
 
(
n
I
 
r
v
)
,
 
.
r
e
f
 
h
u
s
e
r
,
 
.
r
e
f
 
h
o
w
n
e
r
,
 
.
r
e
f
 
h
t
r
i
e
d
,
 
.
r
e
f
 
h
i
d
e
n
t
,
 
.
r
e
f
 
h
t
a
p
e
,
 
.
i
n
t
 
g
i
v
e
n
,
 
.
r
e
f
 
h
s
e
c
r
e
t
,
 
.
r
e
f
 
q
e
n
t
,
 
.
r
e
f
 
h
n
o
e
,
 
.
i
n
t
 
p
e
r
m
,
 
.
i
n
t
 
p
l
a
i
n
]
)
)
,
 
(
q
e
n
t
,
 
.
i
n
l
 
(
E
.
2
.
2
.
1
,
 
2
,
 
.
i
n
r
 
(
.
i
n
r
 
(
.
i
n
r
 
(
.
i
n
r
 
(
g
E
n
t
 
[
h
e
0
,
 
h
e
1
]
)
)
)
)
)
)
,
 
(
h
e
0
,
 
.
i
n
r
 
(
6
,
 
[
.
r
e
f
 
a
e
0
,
 
.
i
n
t
 
X
e
0
.
1
]
)
)
,
 
(
a
e
0
,
 
.
i
n
l
 
(
E
.
2
.
1
,
 
4
8
,
 
.
i
n
l
 
X
e
0
.
2
)
)
,
 
(
h
e
1
,
 
.
i
n
r
 
(
6
,
 
[
.
r
e
f
 
a
e
1
,
 
.
i
n
t
 
X
e
1
.
1
]
)
)
,
 
(
a
e
1
,
 
.
i
n
l
 
(
E
.
2
.
1
,
 
4
8
,
 
.
i
n
l
 
X
e
1
.
2
)
)
,
 
(
h
n
o
e
,
 
.
i
n
r
 
(
6
,
 
[
.
r
e
f
 
a
n
o
e
,
 
.
i
n
t
 
X
n
o
e
.
1
]
)
)
,
 
(
a
n
o
e
,
 
.
i
n
l
 
(
E
.
2
.
1
,
 
0
,
 
.
i
n
l
 
X
n
o
e
.
2
)
)
]
 
:
=
 
h
D
_
2
7


 
 
 
 
c
l
e
a
r
 
h
P
 
h
D
 
h
S


 
 
 
 
h
a
v
e
 
c
_
2
8
 
:
 
¬
 
t
_
2
5
.
1
 
=
 
0
 
:
=
 
b
y
 
r
w
 
[
h
t
_
2
5
]
;
 
e
x
a
c
t
 
p
x
_
2
6
.
2


 
 
 
 
h
a
v
e
 
c
_
2
9
 
:
 
t
_
2
5
.
1
 
=
 
4
 
:
=
 
b
y
 
h
a
v
e
 
q
9
 
:
=
 
L
c
_
X
1
0
_
e
n
t
r
y
_
e
 
_
 
_
 
_
 
_
 
_
;
 
r
w
 
[
←
 
h
t
_
2
5
]
 
a
t
 
q
9
;
 
o
m
e
g
a


 
 
 
 
o
b
t
a
i
n
 
r
f
l
 
:
 
n
m
_
2
6
 
=
 
"
j
a
v
a
/
l
a
n
g
/
I
n
d
e
x
O
u
t
O
f
B
o
u
n
d
s
E
x
c
e
p
t
i
o
n
"
 
:
=
 
p
x
_
2
6
.
1
.
t
r
a
n
s
 
(
b
y
 
r
w
 
[
←
 
h
t
_
2
5
,
 
c
_
2
9
]
;
 
r
f
l
)


 
 
 
 
r
e
f
i
n
e
 
v
x
_
c
a
t
c
h
 
h
o
w
n
 
[
]
 
⟨
0
,
 
1
0
,
 
1
3
,
 
3
2
⟩
 
[
]
 
(
b
y
 
r
w
 
[
h
t
a
b
]
;
 
r
f
l
)
 
(
f
u
n
 
z
 
h
9
 
=
>
 
a
b
s
u
r
d
 
h
9
 
L
i
s
t
.
n
o
t
_
m
e
m
_
n
i
l
)
 
(
b
y
 
d
e
c
i
d
e
)
 
(
b
y
 
d
e
c
i
d
e
)
 
w
_
0
 
(
v
a
_
N
w
.
u
s
e
 
r
f
l
 
(
h
X
.
2
.
1
 
(
.
c
a
s
t
a
b
l
e
 
"
j
a
v
a
/
l
a
n
g
/
I
n
d
e
x
O
u
t
O
f
B
o
u
n
d
s
E
x
c
e
p
t
i
o
n
"
 
"
j
a
v
a
/
l
a
n
g
/
I
n
d
e
x
O
u
t
O
f
B
o
u
n
d
s
E
x
c
e
p
t
i
o
n
"
)
 
(
b
y
 
d
e
c
i
d
e
 
+
k
e
r
n
e
l
)
)
)
 
h
c
e
_
2
6
 
h
c
v
_
2
6
 
h
c
l
_
2
6
 
?
_


 
 
 
 
r
e
f
i
n
e
 
l
v
_
a
s
t
o
r
e
 
(
l
v
'
 
:
=
 
[
(
4
,
 
.
r
e
f
 
q
_
2
6
)
,
 
(
0
,
 
.
r
e
f
 
h
)
,
 
(
1
,
 
.
i
n
t
 
w
h
i
c
h
)
,
 
(
2
,
 
.
i
n
t
 
v
i
)
,
 
(
3
,
 
.
r
e
f
 
a
o
u
t
)
]
)
 
h
x
 
h
b
 
d
L
_
e
n
t
r
y
_
1
3
 
h
l
 
(
b
y
 
d
e
c
i
d
e
)
 
r
f
l
 
(
f
u
n
 
l
s
_
3
0
 
h
l
_
3
0
 
=
>
 
?
_
)


 
 
 
 
c
l
e
a
r
 
h
l


 
 
 
 
r
e
f
i
n
e
 
l
v
_
i
c
o
n
s
t
 
(
v
 
:
=
 
1
)
 
h
x
 
h
b
 
d
L
_
e
n
t
r
y
_
1
5
 
(
b
y
 
d
e
c
i
d
e
)
 
?
_


 
 
 
 
r
e
f
i
n
e
 
v
x
_
r
e
t
 
?
_


 
 
 
 
h
a
v
e
 
h
p
o
s
t
 
:
 
(
(
1
,
 
g
g
)
 
:
 
I
n
t
3
2
 
×
 
(
N
a
t
 
→
 
I
n
t
6
4
)
)
 
=
 
F
_
L
_
e
n
t
r
y
_
e
 
X
e
0
 
X
e
1
 
X
n
o
e
 
g
g
 
w
h
i
c
h
 
v
i
 
:
=
 
(
s
h
o
w
 
F
_
L
_
e
n
t
r
y
_
e
 
X
e
0
 
X
e
1
 
X
n
o
e
 
g
g
 
w
h
i
c
h
 
v
i
 
=
 
(
(
1
,
 
g
g
)
 
:
 
I
n
t
3
2
 
×
 
(
N
a
t
 
→
 
I
n
t
6
4
)
)
 
f
r
o
m
 
(
g
L
e
t
_
e
q
 
h
t
_
2
5
 
(
(
i
f
_
n
e
g
 
c
_
2
8
)
.
t
r
a
n
s
 
r
f
l
)
)
)
.
s
y
m
m


 
 
 
 
h
a
v
e
 
h
P
9
 
:
=
 
h
P
_
2
7
.
s
u
b
 
(
w
s
'
 
:
=
 
[
(
h
,
 
.
i
n
r
 
(
1
1
,
 
[
.
r
e
f
 
h
l
k
,
 
.
r
e
f
 
h
v
,
 
.
r
e
f
 
h
t
,
 
.
r
e
f
 
h
c
o
l
,
 
.
r
e
f
 
h
a
n
s
,
 
.
i
n
t
 
c
f
o
r
,
 
.
i
n
t
 
c
b
a
c
k
,
 
.
i
n
t
 
f
i
l
t
]
)
)
,
 
(
h
v
,
 
.
i
n
r
 
(
1
0
,
 
[
.
i
n
t
 
(
n
I
 
r
v
)
,
 
.
r
e
f
 
h
u
s
e
r
,
 
.
r
e
f
 
h
o
w
n
e
r
,
 
.
r
e
f
 
h
t
r
i
e
d
,
 
.
r
e
f
 
h
i
d
e
n
t
,
 
.
r
e
f
 
h
t
a
p
e
,
 
.
i
n
t
 
g
i
v
e
n
,
 
.
r
e
f
 
h
s
e
c
r
e
t
,
 
.
r
e
f
 
q
e
n
t
,
 
.
r
e
f
 
h
n
o
e
,
 
.
i
n
t
 
p
e
r
m
,
 
.
i
n
t
 
p
l
a
i
n
]
)
)
,
 
(
q
e
n
t
,
 
.
i
n
l
 
(
E
.
2
.
2
.
1
,
 
2
,
 
.
i
n
r
 
(
.
i
n
r
 
(
.
i
n
r
 
(
.
i
n
r
 
(
g
E
n
t
 
[
h
e
0
,
 
h
e
1
]
)
)
)
)
)
)
,
 
(
h
e
0
,
 
.
i
n
r
 
(
6
,
 
[
.
r
e
f
 
a
e
0
,
 
.
i
n
t
 
X
e
0
.
1
]
)
)
,
 
(
a
e
0
,
 
.
i
n
l
 
(
E
.
2
.
1
,
 
4
8
,
 
.
i
n
l
 
X
e
0
.
2
)
)
,
 
(
h
e
1
,
 
.
i
n
r
 
(
6
,
 
[
.
r
e
f
 
a
e
1
,
 
.
i
n
t
 
X
e
1
.
1
]
)
)
,
 
(
a
e
1
,
 
.
i
n
l
 
(
E
.
2
.
1
,
 
4
8
,
 
.
i
n
l
 
X
e
1
.
2
)
)
,
 
(
h
n
o
e
,
 
.
i
n
r
 
(
6
,
 
[
.
r
e
f
 
a
n
o
e
,
 
.
i
n
t
 
X
n
o
e
.
1
]
)
)
,
 
(
a
n
o
e
,
 
.
i
n
l
 
(
E
.
2
.
1
,
 
0
,
 
.
i
n
l
 
X
n
o
e
.
2
)
)
,
 
(
a
o
u
t
,
 
.
i
n
l
 
(
c
L
,
 
1
,
 
.
i
n
r
 
(
.
i
n
l
 
g
g
)
)
)
]
)
 
[
1
,
 
2
,
 
3
,
 
4
,
 
5
,
 
6
,
 
7
,
 
8
,
 
9
,
 
0
]
 
r
f
l


 
 
 
 
h
a
v
e
 
h
D
9
 
:
=
 
h
D
_
2
7
.
s
u
b
 
(
w
s
'
 
:
=
 
[
(
h
,
 
.
i
n
r
 
(
1
1
,
 
[
.
r
e
f
 
h
l
k
,
 
.
r
e
f
 
h
v
,
 
.
r
e
f
 
h
t
,
 
.
r
e
f
 
h
c
o
l
,
 
.
r
e
f
 
h
a
n
s
,
 
.
i
n
t
 
c
f
o
r
,
 
.
i
n
t
 
c
b
a
c
k
,
 
.
i
n
t
 
f
i
l
t
]
)
)
,
 
(
h
v
,
 
.
i
n
r
 
(
1
0
,
 
[
.
i
n
t
 
(
n
I
 
r
v
)
,
 
.
r
e
f
 
h
u
s
e
r
,
 
.
r
e
f
 
h
o
w
n
e
r
,
 
.
r
e
f
 
h
t
r
i
e
d
,
 
.
r
e
f
 
h
i
d
e
n
t
,
 
.
r
e
f
 
h
t
a
p
e
,
 
.
i
n
t
 
g
i
v
e
n
,
 
.
r
e
f
 
h
s
e
c
r
e
t
,
 
.
r
e
f
 
q
e
n
t
,
 
.
r
e
f
 
h
n
o
e
,
 
.
i
n
t
 
p
e
r
m
,
 
.
i
n
t
 
p
l
a
i
n
]
)
)
,
 
(
q
e
n
t
,
 
.
i
n
l
 
(
E
.
2
.
2
.
1
,
 
2
,
 
.
i
n
r
 
(
.
i
n
r
 
(
.
i
n
r
 
(
.
i
n
r
 
(
g
E
n
t
 
[
h
e
0
,
 
h
e
1
]
)
)
)
)
)
)
,
 
(
h
e
0
,
 
.
i
n
r
 
(
6
,
 
[
.
r
e
f
 
a
e
0
,
 
.
i
n
t
 
X
e
0
.
1
]
)
)
,
 
(
a
e
0
,
 
.
i
n
l
 
(
E
.
2
.
1
,
 
4
8
,
 
.
i
n
l
 
X
e
0
.
2
)
)
,
 
(
h
e
1
,
 
.
i
n
r
 
(
6
,
 
[
.
r
e
f
 
a
e
1
,
 
.
i
n
t
 
X
e
1
.
1
]
)
)
,
 
(
a
e
1
,
 
.
i
n
l
 
(
E
.
2
.
1
,
 
4
8
,
 
.
i
n
l
 
X
e
1
.
2
)
)
,
 
(
h
n
o
e
,
 
.
i
n
r
 
(
6
,
 
[
.
r
e
f
 
a
n
o
e
,
 
.
i
n
t
 
X
n
o
e
.
1
]
)
)
,
 
(
a
n
o
e
,
 
.
i
n
l
 
(
E
.
2
.
1
,
 
0
,
 
.
i
n
l
 
X
n
o
e
.
2
)
)
,
 
(
a
o
u
t
,
 
.
i
n
l
 
(
c
L
,
 
1
,
 
.
i
n
r
 
(
.
i
n
l
 
g
g
)
)
)
]
)
 
[
1
,
 
2
,
 
3
,
 
4
,
 
5
,
 
6
,
 
7
,
 
8
,
 
9
,
 
0
]
 
(
b
y
 
d
e
c
i
d
e
)
 
r
f
l


 
 
 
 
e
x
a
c
t
 
W
.
i
r
e
t
 
(
v
 
:
=
 
1
)
 
h
x
 
h
b
 
h
r
 
(
f
u
n
 
t
 
h
t
 
h
W
 
=
>
 
⟨
⟨
1
,
 
g
g
,
 
r
f
l
,
 
⟨
c
o
n
g
r
A
r
g
 
P
r
o
d
.
f
s
t
 
h
p
o
s
t
,
 
c
o
n
g
r
A
r
g
 
P
r
o
d
.
s
n
d
 
h
p
o
s
t
⟩
,
 
b
y
 
r
w
 
[
h
t
]
;
 
e
x
a
c
t
 
h
P
9
,
 
h
D
9
⟩
,
 
h
S
_
2
7
.
F
 
h
t
⟩
)
 
h
S
_
2
7
.
2
.
2
 
d
L
_
e
n
t
r
y
_
1
6


 
 
·
 
h
a
v
e
 
e
_
3
2
 
:
 
t
_
2
5
 
=
 
(
(
0
,
 
r
_
2
3
)
 
:
 
N
a
t
 
×
 
I
n
t
3
2
)
 
:
=
 
h
t
_
2
5
.
t
r
a
n
s
 
h
u
_
2
3
.
s
y
m
m


 
 
 
 
h
a
v
e
 
c
_
3
1
 
:
 
t
_
2
5
.
1
 
=
 
0
 
:
=
 
b
y
 
r
w
 
[
e
_
3
2
]


 
 
 
 
o
b
t
a
i
n
 
r
f
l
 
:
 
r
_
2
3
 
=
 
t
_
2
5
.
2
 
:
=
 
(
c
o
n
g
r
A
r
g
 
(
f
u
n
 
z
 
:
 
N
a
t
 
×
 
I
n
t
3
2
 
=
>
 
z
.
2
)
 
e
_
3
2
)
.
s
y
m
m


 
 
 
 
r
e
p
l
a
c
e
 
h
P
_
2
4
 
:
 
v
a
_
P
 
E
.
1
 
v
w
C
l
 
[
(
a
o
u
t
,
 
.
i
n
l
 
(
c
L
,
 
1
,
 
.
i
n
r
 
(
.
i
n
l
 
g
g
)
)
)
,
 
(
h
,
 
.
i
n
r
 
(
1
1
,
 
[
.
r
e
f
 
h
l
k
,
 
.
r
e
f
 
h
v
,
 
.
r
e
f
 
h
t
,
 
.
r
e
f
 
h
c
o
l
,
 
.
r
e
f
 
h
a
n
s
,
 
.
i
n
t
 
c
f
o
r
,
 
.
i
n
t
 
c
b
a
c
k
,
 
.
i
n
t
 
f
i
l
t
]
)
)
,
 
(
h
v
,
 
.
i
n
r
 
(
1
0
,
 
[
.
i
n
t
 
(
n
I
 
r
v
)
,
 
.
r
e
f
 
h
u
s
e
r
,
 
.
r
e
f
 
h
o
w
n
e
r
,
 
.
r
e
f
 
h
t
r
i
e
d
,
 
.
r
e
f
 
h
i
d
e
n
t
,
 
.
r
e
f
 
h
t
a
p
e
,
 
.
i
n
t
 
g
i
v
e
n
,
 
.
r
e
f
 
h
s
e
c
r
e
t
,
 
.
r
e
f
 
q
e
n
t
,
 
.
r
e
f
 
h
n
o
e
,
 
.
i
n
t
 
p
e
r
m
,
 
.
i
n
t
 
p
l
a
i
n
]
)
)
,
 
(
q
e
n
t
,
 
.
i
n
l
 
(
E
.
2
.
2
.
1
,
 
2
,
 
.
i
n
r
 
(
.
i
n
r
 
(
.
i
n
r
 
(
.
i
n
r
 
(
g
E
n
t
 
[
h
e
0
,
 
h
e
1
]
)
)
)
)
)
)
,
 
(
h
e
0
,
 
.
i
n
r
 
(
6
,
 
[
.
r
e
f
 
a
e
0
,
 
.
i
n
t
 
X
e
0
.
1
]
)
)
,
 
(
a
e
0
,
 
.
i
n
l
 
(
E
.
2
.
1
,
 
4
8
,
 
.
i
n
l
 
X
e
0
.
2
)
)
,
 
(
h
e
1
,
 
.
i
n
r
 
(
6
,
 
[
.
r
e
f
 
a
e
1
,
 
.
i
n
t
 
X
e
1
.
1
]
)
)
,
 
(
a
e
1
,
 
.
i
n
l
 
(
E
.
2
.
1
,
 
4
8
,
 
.
i
n
l
 
X
e
1
.
2
)
)
,
 
(
h
n
o
e
,
 
.
i
n
r
 
(
6
,
 
[
.
r
e
f
 
a
n
o
e
,
 
.
i
n
t
 
X
n
o
e
.
1
]
)
)
,
 
(
a
n
o
e
,
 
.
i
n
l
 
(
E
.
2
.
1
,
 
0
,
 
.
i
n
l
 
X
n
o
e
.
2
)
)
]
 
H
_
2
4
 
:
=
 
h
P
_
2
4


 
 
 
 
r
e
p
l
a
c
e
 
h
D
_
2
4
 
:
 
v
a
_
D
 
A
 
[
(
a
o
u
t
,
 
.
i
n
l
 
(
c
L
,
 
1
,
 
.
i
n
r
 
(
.
i
n
l
 
g
g
)
)
)
,
 
(
h
,
 
.
i
n
r
 
(
1
1
,
 
[
.
r
e
f
 
h
l
k
,
 
.
r
e
f
 
h
v
,
 
.
r
e
f
 
h
t
,
 
.
r
e
f
 
h
c
o
l
,
 
.
r
e
f
 
h
a
n
s
,
 
.
i
n
t
 
c
f
o
r
,
 
.
i
n
t
 
c
b
a
c
k
,
 
.
i
n
t
 
f
i
l
t
]
)
)
,
 
(
h
v
,
 
.
i
n
r
 
(
1
0
,
 
[
.
i
n
t
 
(
n
I
 
r
v
)
,
 
.
r
e
f
 
h
u
s
e
r
,
 
.
r
e
f
 
h
o
w
n
e
r
,
 
.
r
e
f
 
h
t
r
i
e
d
,
 
.
r
e
f
 
h
i
d
e
n
t
,
 
.
r
e
f
 
h
t
a
p
e
,
 
.
i
n
t
 
g
i
v
e
n
,
 
.
r
e
f
 
h
s
e
c
r
e
t
,
 
.
r
e
f
 
q
e
n
t
,
 
.
r
e
f
 
h
n
o
e
,
 
.
i
n
t
 
p
e
r
m
,
 
.
i
n
t
 
p
l
a
i
n
]
)
)
,
 
(
q
e
n
t
,
 
.
i
n
l
 
(
E
.
2
.
2
.
1
,
 
2
,
 
.
i
n
r
 
(
.
i
n
r
 
(
.
i
n
r
 
(
.
i
n
r
 
(
g
E
n
t
 
[
h
e
0
,
 
h
e
1
]
)
)
)
)
)
)
,
 
(
h
e
0
,
 
.
i
n
r
 
(
6
,
 
[
.
r
e
f
 
a
e
0
,
 
.
i
n
t
 
X
e
0
.
1
]
)
)
,
 
(
a
e
0
,
 
.
i
n
l
 
(
E
.
2
.
1
,
 
4
8
,
 
.
i
n
l
 
X
e
0
.
2
)
)
,
 
(
h
e
1
,
 
.
i
n
r
 
(
6
,
 
[
.
r
e
f
 
a
e
1
,
 
.
i
n
t
 
X
e
1
.
1
]
)
)
,
 
(
a
e
1
,
 
.
i
n
l
 
(
E
.
2
.
1
,
 
4
8
,
 
.
i
n
l
 
X
e
1
.
2
)
)
,
 
(
h
n
o
e
,
 
.
i
n
r
 
(
6
,
 
[
.
r
e
f
 
a
n
o
e
,
 
.
i
n
t
 
X
n
o
e
.
1
]
)
)
,
 
(
a
n
o
e
,
 
.
i
n
l
 
(
E
.
2
.
1
,
 
0
,
 
.
i
n
l
 
X
n
o
e
.
2
)
)
]
 
:
=
 
h
D
_
2
4


 
 
 
 
c
l
e
a
r
 
h
P
 
h
D
 
h
S


 
 
 
 
r
e
f
i
n
e
 
l
v
_
i
2
l
 
(
v
 
:
=
 
t
_
2
5
.
2
.
t
o
I
n
t
6
4
)
 
h
x
 
h
b
 
d
L
_
e
n
t
r
y
_
8
 
r
f
l
 
?
_


 
 
 
 
r
e
f
i
n
e
 
v
a
_
l
a
s
t
 
h
x
 
h
b
 
h
L
 
h
P
_
2
4
 
h
D
_
2
4
 
h
S
_
2
4
 
0
 
2
 
r
f
l
 
r
f
l
 
(
b
y
 
d
e
c
i
d
e
)
 
d
L
_
e
n
t
r
y
_
9
 
(
f
u
n
 
H
_
3
3
 
l
o
c
s
_
3
3
 
h
P
_
3
3
 
h
D
_
3
3
 
h
S
_
3
3
 
=
>
 
?
_
)


 
 
 
 
r
e
p
l
a
c
e
 
h
P
_
3
3
 
:
 
v
a
_
P
 
E
.
1
 
v
w
C
l
 
[
(
a
o
u
t
,
 
.
i
n
l
 
(
c
L
,
 
1
,
 
.
i
n
r
 
(
.
i
n
l
 
(
v
p
_
u
p
d
L
 
g
g
 
(
0
 
:
 
I
n
t
3
2
)
.
t
o
N
a
t
C
l
a
m
p
N
e
g
 
(
t
_
2
5
.
2
.
t
o
I
n
t
6
4
)
)
)
)
)
,
 
(
h
,
 
.
i
n
r
 
(
1
1
,
 
[
.
r
e
f
 
h
l
k
,
 
.
r
e
f
 
h
v
,
 
.
r
e
f
 
h
t
,
 
.
r
e
f
 
h
c
o
l
,
 
.
r
e
f
 
h
a
n
s
,
 
.
i
n
t
 
c
f
o
r
,
 
.
i
n
t
 
c
b
a
c
k
,
 
.
i
n
t
 
f
i
l
t
]
)
)
,
 
(
h
v
,
 
.
i
n
r
 
(
1
0
,
 
[
.
i
n
t
 
(
n
I
 
r
v
)
,
 
.
r
e
f
 
h
u
s
e
r
,
 
.
r
e
f
 
h
o
w
n
e
r
,
 
.
r
e
f
 
h
t
r
i
e
d
,
 
.
r
e
f
 
h
i
d
e
n
t
,
 
.
r
e
f
 
h
t
a
p
e
,
 
.
i
n
t
 
g
i
v
e
n
,
 
.
r
e
f
 
h
s
e
c
r
e
t
,
 
.
r
e
f
 
q
e
n
t
,
 
.
r
e
f
 
h
n
o
e
,
 
.
i
n
t
 
p
e
r
m
,
 
.
i
n
t
 
p
l
a
i
n
]
)
)
,
 
(
q
e
n
t
,
 
.
i
n
l
 
(
E
.
2
.
2
.
1
,
 
2
,
 
.
i
n
r
 
(
.
i
n
r
 
(
.
i
n
r
 
(
.
i
n
r
 
(
g
E
n
t
 
[
h
e
0
,
 
h
e
1
]
)
)
)
)
)
)
,
 
(
h
e
0
,
 
.
i
n
r
 
(
6
,
 
[
.
r
e
f
 
a
e
0
,
 
.
i
n
t
 
X
e
0
.
1
]
)
)
,
 
(
a
e
0
,
 
.
i
n
l
 
(
E
.
2
.
1
,
 
4
8
,
 
.
i
n
l
 
X
e
0
.
2
)
)
,
 
(
h
e
1
,
 
.
i
n
r
 
(
6
,
 
[
.
r
e
f
 
a
e
1
,
 
.
i
n
t
 
X
e
1
.
1
]
)
)
,
 
(
a
e
1
,
 
.
i
n
l
 
(
E
.
2
.
1
,
 
4
8
,
 
.
i
n
l
 
X
e
1
.
2
)
)
,
 
(
h
n
o
e
,
 
.
i
n
r
 
(
6
,
 
[
.
r
e
f
 
a
n
o
e
,
 
.
i
n
t
 
X
n
o
e
.
1
]
)
)
,
 
(
a
n
o
e
,
 
.
i
n
l
 
(
E
.
2
.
1
,
 
0
,
 
.
i
n
l
 
X
n
o
e
.
2
)
)
]
 
H
_
3
3
 
:
=
 
h
P
_
3
3


 
 
 
 
r
e
p
l
a
c
e
 
h
D
_
3
3
 
:
 
v
a
_
D
 
A
 
[
(
a
o
u
t
,
 
.
i
n
l
 
(
c
L
,
 
1
,
 
.
i
n
r
 
(
.
i
n
l
 
(
v
p
_
u
p
d
L
 
g
g
 
(
0
 
:
 
I
n
t
3
2
)
.
t
o
N
a
t
C
l
a
m
p
N
e
g
 
(
t
_
2
5
.
2
.
t
o
I
n
t
6
4
)
)
)
)
)
,
 
(
h
,
 
.
i
n
r
 
(
1
1
,
 
[
.
r
e
f
 
h
l
k
,
 
.
r
e
f
 
h
v
,
 
.
r
e
f
 
h
t
,
 
.
r
e
f
 
h
c
o
l
,
 
.
r
e
f
 
h
a
n
s
,
 
.
i
n
t
 
c
f
o
r
,
 
.
i
n
t
 
c
b
a
c
k
,
 
.
i
n
t
 
f
i
l
t
]
)
)
,
 
(
h
v
,
 
.
i
n
r
 
(
1
0
,
 
[
.
i
n
t
 
(
n
I
 
r
v
)
,
 
.
r
e
f
 
h
u
s
e
r
,
 
.
r
e
f
 
h
o
w
n
e
r
,
 
.
r
e
f
 
h
t
r
i
e
d
,
 
.
r
e
f
 
h
i
d
e
n
t
,
 
.
r
e
f
 
h
t
a
p
e
,
 
.
i
n
t
 
g
i
v
e
n
,
 
.
r
e
f
 
h
s
e
c
r
e
t
,
 
.
r
e
f
 
q
e
n
t
,
 
.
r
e
f
 
h
n
o
e
,
 
.
i
n
t
 
p
e
r
m
,
 
.
i
n
t
 
p
l
a
i
n
]
)
)
,
 
(
q
e
n
t
,
 
.
i
n
l
 
(
E
.
2
.
2
.
1
,
 
2
,
 
.
i
n
r
 
(
.
i
n
r
 
(
.
i
n
r
 
(
.
i
n
r
 
(
g
E
n
t
 
[
h
e
0
,
 
h
e
1
]
)
)
)
)
)
)
,
 
(
h
e
0
,
 
.
i
n
r
 
(
6
,
 
[
.
r
e
f
 
a
e
0
,
 
.
i
n
t
 
X
e
0
.
1
]
)
)
,
 
(
a
e
0
,
 
.
i
n
l
 
(
E
.
2
.
1
,
 
4
8
,
 
.
i
n
l
 
X
e
0
.
2
)
)
,
 
(
h
e
1
,
 
.
i
n
r
 
(
6
,
 
[
.
r
e
f
 
a
e
1
,
 
.
i
n
t
 
X
e
1
.
1
]
)
)
,
 
(
a
e
1
,
 
.
i
n
l
 
(
E
.
2
.
1
,
 
4
8
,
 
.
i
n
l
 
X
e
1
.
2
)
)
,
 
(
h
n
o
e
,
 
.
i
n
r
 
(
6
,
 
[
.
r
e
f
 
a
n
o
e
,
 
.
i
n
t
 
X
n
o
e
.
1
]
)
)
,
 
(
a
n
o
e
,
 
.
i
n
l
 
(
E
.
2
.
1
,
 
0
,
 
.
i
n
l
 
X
n
o
e
.
2
)
)
]
 
:
=
 
h
D
_
3
3


 
 
 
 
c
l
e
a
r
 
h
P
_
2
4
 
h
D
_
2
4
 
h
S
_
2
4


 
 
 
 
r
e
f
i
n
e
 
l
v
_
g
o
t
o
 
(
t
g
t
 
:
=
 
1
7
)
 
h
x
 
h
b
 
d
L
_
e
n
t
r
y
_
1
0
 
(
b
y
 
d
e
c
i
d
e
)
 
?
_


 
 
 
 
r
e
f
i
n
e
 
l
v
_
i
c
o
n
s
t
 
(
v
 
:
=
 
0
)
 
h
x
 
h
b
 
d
L
_
e
n
t
r
y
_
1
7
 
(
b
y
 
d
e
c
i
d
e
)
 
?
_


 
 
 
 
r
e
f
i
n
e
 
v
x
_
r
e
t
 
?
_


 
 
 
 
h
a
v
e
 
h
p
o
s
t
 
:
 
(
(
0
,
 
(
v
p
_
u
p
d
L
 
g
g
 
(
0
 
:
 
I
n
t
3
2
)
.
t
o
N
a
t
C
l
a
m
p
N
e
g
 
(
t
_
2
5
.
2
.
t
o
I
n
t
6
4
)
)
)
 
:
 
I
n
t
3
2
 
×
 
(
N
a
t
 
→
 
I
n
t
6
4
)
)
 
=
 
F
_
L
_
e
n
t
r
y
_
e
 
X
e
0
 
X
e
1
 
X
n
o
e
 
g
g
 
w
h
i
c
h
 
v
i
 
:
=
 
(
s
h
o
w
 
F
_
L
_
e
n
t
r
y
_
e
 
X
e
0
 
X
e
1
 
X
n
o
e
 
g
g
 
w
h
i
c
h
 
v
i
 
=
 
(
(
0
,
 
(
v
p
_
u
p
d
L
 
g
g
 
(
0
 
:
 
I
n
t
3
2
)
.
t
o
N
a
t
C
l
a
m
p
N
e
g
 
(
t
_
2
5
.
2
.
t
o
I
n
t
6
4
)
)
)
 
:
 
I
n
t
3
2
 
×
 
(
N
a
t
 
→
 
I
n
t
6
4
)
)
 
f
r
o
m
 
(
g
L
e
t
_
e
q
 
h
t
_
2
5
 
(
(
i
f
_
p
o
s
 
c
_
3
1
)
.
t
r
a
n
s
 
r
f
l
)
)
)
.
s
y
m
m


 
 
 
 
h
a
v
e
 
h
P
9
 
:
=
 
h
P
_
3
3
.
s
u
b
 
(
w
s
'
 
:
=
 
[
(
h
,
 
.
i
n
r
 
(
1
1
,
 
[
.
r
e
f
 
h
l
k
,
 
.
r
e
f
 
h
v
,
 
.
r
e
f
 
h
t
,
 
.
r
e
f
 
h
c
o
l
,
 
.
r
e
f
 
h
a
n
s
,
 
.
i
n
t
 
c
f
o
r
,
 
.
i
n
t
 
c
b
a
c
k
,
 
.
i
n
t
 
f
i
l
t
]
)
)
,
 
(
h
v
,
 
.
i
n
r
 
(
1
0
,
 
[
.
i
n
t
 
(
n
I
 
r
v
)
,
 
.
r
e
f
 
h
u
s
e
r
,
 
.
r
e
f
 
h
o
w
n
e
r
,
 
.
r
e
f
 
h
t
r
i
e
d
,
 
.
r
e
f
 
h
i
d
e
n
t
,
 
.
r
e
f
 
h
t
a
p
e
,
 
.
i
n
t
 
g
i
v
e
n
,
 
.
r
e
f
 
h
s
e
c
r
e
t
,
 
.
r
e
f
 
q
e
n
t
,
 
.
r
e
f
 
h
n
o
e
,
 
.
i
n
t
 
p
e
r
m
,
 
.
i
n
t
 
p
l
a
i
n
]
)
)
,
 
(
q
e
n
t
,
 
.
i
n
l
 
(
E
.
2
.
2
.
1
,
 
2
,
 
.
i
n
r
 
(
.
i
n
r
 
(
.
i
n
r
 
(
.
i
n
r
 
(
g
E
n
t
 
[
h
e
0
,
 
h
e
1
]
)
)
)
)
)
)
,
 
(
h
e
0
,
 
.
i
n
r
 
(
6
,
 
[
.
r
e
f
 
a
e
0
,
 
.
i
n
t
 
X
e
0
.
1
]
)
)
,
 
(
a
e
0
,
 
.
i
n
l
 
(
E
.
2
.
1
,
 
4
8
,
 
.
i
n
l
 
X
e
0
.
2
)
)
,
 
(
h
e
1
,
 
.
i
n
r
 
(
6
,
 
[
.
r
e
f
 
a
e
1
,
 
.
i
n
t
 
X
e
1
.
1
]
)
)
,
 
(
a
e
1
,
 
.
i
n
l
 
(
E
.
2
.
1
,
 
4
8
,
 
.
i
n
l
 
X
e
1
.
2
)
)
,
 
(
h
n
o
e
,
 
.
i
n
r
 
(
6
,
 
[
.
r
e
f
 
a
n
o
e
,
 
.
i
n
t
 
X
n
o
e
.
1
]
)
)
,
 
(
a
n
o
e
,
 
.
i
n
l
 
(
E
.
2
.
1
,
 
0
,
 
.
i
n
l
 
X
n
o
e
.
2
)
)
,
 
(
a
o
u
t
,
 
.
i
n
l
 
(
c
L
,
 
1
,
 
.
i
n
r
 
(
.
i
n
l
 
(
v
p
_
u
p
d
L
 
g
g
 
(
0
 
:
 
I
n
t
3
2
)
.
t
o
N
a
t
C
l
a
m
p
N
e
g
 
(
t
_
2
5
.
2
.
t
o
I
n
t
6
4
)
)
)
)
)
]
)
 
[
1
,
 
2
,
 
3
,
 
4
,
 
5
,
 
6
,
 
7
,
 
8
,
 
9
,
 
0
]
 
r
f
l


 
 
 
 
h
a
v
e
 
h
D
9
 
:
=
 
h
D
_
3
3
.
s
u
b
 
(
w
s
'
 
:
=
 
[
(
h
,
 
.
i
n
r
 
(
1
1
,
 
[
.
r
e
f
 
h
l
k
,
 
.
r
e
f
 
h
v
,
 
.
r
e
f
 
h
t
,
 
.
r
e
f
 
h
c
o
l
,
 
.
r
e
f
 
h
a
n
s
,
 
.
i
n
t
 
c
f
o
r
,
 
.
i
n
t
 
c
b
a
c
k
,
 
.
i
n
t
 
f
i
l
t
]
)
)
,
 
(
h
v
,
 
.
i
n
r
 
(
1
0
,
 
[
.
i
n
t
 
(
n
I
 
r
v
)
,
 
.
r
e
f
 
h
u
s
e
r
,
 
.
r
e
f
 
h
o
w
n
e
r
,
 
.
r
e
f
 
h
t
r
i
e
d
,
 
.
r
e
f
 
h
i
d
e
n
t
,
 
.
r
e
f
 
h
t
a
p
e
,
 
.
i
n
t
 
g
i
v
e
n
,
 
.
r
e
f
 
h
s
e
c
r
e
t
,
 
.
r
e
f
 
q
e
n
t
,
 
.
r
e
f
 
h
n
o
e
,
 
.
i
n
t
 
p
e
r
m
,
 
.
i
n
t
 
p
l
a
i
n
]
)
)
,
 
(
q
e
n
t
,
 
.
i
n
l
 
(
E
.
2
.
2
.
1
,
 
2
,
 
.
i
n
r
 
(
.
i
n
r
 
(
.
i
n
r
 
(
.
i
n
r
 
(
g
E
n
t
 
[
h
e
0
,
 
h
e
1
]
)
)
)
)
)
)
,
 
(
h
e
0
,
 
.
i
n
r
 
(
6
,
 
[
.
r
e
f
 
a
e
0
,
 
.
i
n
t
 
X
e
0
.
1
]
)
)
,
 
(
a
e
0
,
 
.
i
n
l
 
(
E
.
2
.
1
,
 
4
8
,
 
.
i
n
l
 
X
e
0
.
2
)
)
,
 
(
h
e
1
,
 
.
i
n
r
 
(
6
,
 
[
.
r
e
f
 
a
e
1
,
 
.
i
n
t
 
X
e
1
.
1
]
)
)
,
 
(
a
e
1
,
 
.
i
n
l
 
(
E
.
2
.
1
,
 
4
8
,
 
.
i
n
l
 
X
e
1
.
2
)
)
,
 
(
h
n
o
e
,
 
.
i
n
r
 
(
6
,
 
[
.
r
e
f
 
a
n
o
e
,
 
.
i
n
t
 
X
n
o
e
.
1
]
)
)
,
 
(
a
n
o
e
,
 
.
i
n
l
 
(
E
.
2
.
1
,
 
0
,
 
.
i
n
l
 
X
n
o
e
.
2
)
)
,
 
(
a
o
u
t
,
 
.
i
n
l
 
(
c
L
,
 
1
,
 
.
i
n
r
 
(
.
i
n
l
 
(
v
p
_
u
p
d
L
 
g
g
 
(
0
 
:
 
I
n
t
3
2
)
.
t
o
N
a
t
C
l
a
m
p
N
e
g
 
(
t
_
2
5
.
2
.
t
o
I
n
t
6
4
)
)
)
)
)
]
)
 
[
1
,
 
2
,
 
3
,
 
4
,
 
5
,
 
6
,
 
7
,
 
8
,
 
9
,
 
0
]
 
(
b
y
 
d
e
c
i
d
e
)
 
r
f
l


 
 
 
 
e
x
a
c
t
 
W
.
i
r
e
t
 
(
v
 
:
=
 
0
)
 
h
x
 
h
b
 
h
r
 
(
f
u
n
 
t
 
h
t
 
h
W
 
=
>
 
⟨
⟨
0
,
 
(
v
p
_
u
p
d
L
 
g
g
 
(
0
 
:
 
I
n
t
3
2
)
.
t
o
N
a
t
C
l
a
m
p
N
e
g
 
(
t
_
2
5
.
2
.
t
o
I
n
t
6
4
)
)
,
 
r
f
l
,
 
⟨
c
o
n
g
r
A
r
g
 
P
r
o
d
.
f
s
t
 
h
p
o
s
t
,
 
c
o
n
g
r
A
r
g
 
P
r
o
d
.
s
n
d
 
h
p
o
s
t
⟩
,
 
b
y
 
r
w
 
[
h
t
]
;
 
e
x
a
c
t
 
h
P
9
,
 
h
D
9
⟩
,
 
h
S
_
3
3
.
F
 
h
t
⟩
)
 
h
S
_
3
3
.
2
.
2
 
d
L
_
e
n
t
r
y
_
1
8


s
e
t
_
o
p
t
i
o
n
 
m
a
x
H
e
a
r
t
b
e
a
t
s
 
4
0
0
0
0
0
0
 
i
n


s
e
t
_
o
p
t
i
o
n
 
m
a
x
R
e
c
D
e
p
t
h
 
1
0
0
0
0
0
 
i
n


t
h
e
o
r
e
m
 
k
_
L
_
a
l
t
e
r
_
e
 
(
E
 
:
 
g
E
)
 
(
s
a
 
:
 
N
a
t
 
→
 
N
a
t
)
 
(
c
L
 
:
 
C
l
a
s
s
I
d
)
 
(
l
 
:
 
L
a
u
n
c
h
)
 
(
h
s
t
 
:
 
l
.
s
t
a
c
k
T
r
a
c
e
s
 
=
 
f
a
l
s
e
)
 
(
h
 
h
l
k
 
h
v
 
h
t
 
h
c
o
l
 
h
a
n
s
 
h
u
s
e
r
 
h
o
w
n
e
r
 
h
t
r
i
e
d
 
h
i
d
e
n
t
 
h
t
a
p
e
 
h
s
e
c
r
e
t
 
q
e
n
t
 
h
n
o
e
 
a
s
e
c
r
e
t
 
h
e
0
 
h
e
1
 
a
e
0
 
a
e
1
 
a
n
o
e
 
a
c
o
l
 
:
 
N
a
t
)
 
(
r
v
 
:
 
N
a
t
)
 
(
c
f
o
r
 
:
 
I
n
t
3
2
)
 
(
c
b
a
c
k
 
:
 
I
n
t
3
2
)
 
(
f
i
l
t
 
:
 
I
n
t
3
2
)
 
(
g
i
v
e
n
 
:
 
I
n
t
3
2
)
 
(
p
e
r
m
 
:
 
I
n
t
3
2
)
 
(
p
l
a
i
n
 
:
 
I
n
t
3
2
)
 
(
X
s
e
c
r
e
t
 
:
 
g
R
o
w
)
 
(
X
e
0
 
:
 
g
R
o
w
)
 
(
X
e
1
 
:
 
g
R
o
w
)
 
(
X
n
o
e
 
:
 
g
R
o
w
)
 
(
X
c
o
l
 
:
 
g
R
o
w
)
 
(
w
h
i
c
h
 
:
 
I
n
t
3
2
)
 
(
v
i
 
:
 
I
n
t
3
2
)
 
(
v
b
 
:
 
I
n
t
3
2
)
 
:
 
g
H
i
 
E
 
s
a
 
c
L
 
l
 
y
L
_
a
l
t
e
r
 
w
s
L
_
a
l
t
e
r
 
(
{
 
f
r
a
m
e
s
 
:
=
 
7
,
 
c
e
l
l
s
 
:
=
 
1
,
 
s
l
o
t
s
 
:
=
 
6
,
 
l
o
c
a
l
s
 
:
=
 
1
0
6
 
}
)
 
1
 
6
 
[
.
r
e
f
 
h
,
 
.
i
n
t
 
w
h
i
c
h
,
 
.
i
n
t
 
v
i
,
 
.
i
n
t
 
v
b
]
 
[
(
h
,
 
.
i
n
r
 
(
1
1
,
 
[
.
r
e
f
 
h
l
k
,
 
.
r
e
f
 
h
v
,
 
.
r
e
f
 
h
t
,
 
.
r
e
f
 
h
c
o
l
,
 
.
r
e
f
 
h
a
n
s
,
 
.
i
n
t
 
c
f
o
r
,
 
.
i
n
t
 
c
b
a
c
k
,
 
.
i
n
t
 
f
i
l
t
]
)
)
,
 
(
h
v
,
 
.
i
n
r
 
(
1
0
,
 
[
.
i
n
t
 
(
n
I
 
r
v
)
,
 
.
r
e
f
 
h
u
s
e
r
,
 
.
r
e
f
 
h
o
w
n
e
r
,
 
.
r
e
f
 
h
t
r
i
e
d
,
 
.
r
e
f
 
h
i
d
e
n
t
,
 
.
r
e
f
 
h
t
a
p
e
,
 
.
i
n
t
 
g
i
v
e
n
,
 
.
r
e
f
 
h
s
e
c
r
e
t
,
 
.
r
e
f
 
q
e
n
t
,
 
.
r
e
f
 
h
n
o
e
,
 
.
i
n
t
 
p
e
r
m
,
 
.
i
n
t
 
p
l
a
i
n
]
)
)
,
 
(
h
s
e
c
r
e
t
,
 
.
i
n
r
 
(
6
,
 
[
.
r
e
f
 
a
s
e
c
r
e
t
,
 
.
i
n
t
 
X
s
e
c
r
e
t
.
1
]
)
)
,
 
(
q
e
n
t
,
 
.
i
n
l
 
(
E
.
2
.
2
.
1
,
 
2
,
 
.
i
n
r
 
(
.
i
n
r
 
(
.
i
n
r
 
(
.
i
n
r
 
(
g
E
n
t
 
[
h
e
0
,
 
h
e
1
]
)
)
)
)
)
)
,
 
(
h
e
0
,
 
.
i
n
r
 
(
6
,
 
[
.
r
e
f
 
a
e
0
,
 
.
i
n
t
 
X
e
0
.
1
]
)
)
,
 
(
a
e
0
,
 
.
i
n
l
 
(
E
.
2
.
1
,
 
4
8
,
 
.
i
n
l
 
X
e
0
.
2
)
)
,
 
(
h
e
1
,
 
.
i
n
r
 
(
6
,
 
[
.
r
e
f
 
a
e
1
,
 
.
i
n
t
 
X
e
1
.
1
]
)
)
,
 
(
a
e
1
,
 
.
i
n
l
 
(
E
.
2
.
1
,
 
4
8
,
 
.
i
n
l
 
X
e
1
.
2
)
)
,
 
(
h
n
o
e
,
 
.
i
n
r
 
(
6
,
 
[
.
r
e
f
 
a
n
o
e
,
 
.
i
n
t
 
X
n
o
e
.
1
]
)
)
,
 
(
a
n
o
e
,
 
.
i
n
l
 
(
E
.
2
.
1
,
 
0
,
 
.
i
n
l
 
X
n
o
e
.
2
)
)
,
 
(
h
c
o
l
,
 
.
i
n
r
 
(
6
,
 
[
.
r
e
f
 
a
c
o
l
,
 
.
i
n
t
 
X
c
o
l
.
1
]
)
)
]
 
(
f
u
n
 
(
r
r
 
:
 
I
n
t
3
2
)
 
(
u
u
 
:
 
g
R
o
w
 
×
 
g
R
o
w
 
×
 
g
R
o
w
 
×
 
g
R
o
w
 
×
 
g
R
o
w
)
 
=
>
 
r
r
 
=
 
(
F
_
L
_
a
l
t
e
r
_
e
 
X
s
e
c
r
e
t
 
X
e
0
 
X
e
1
 
X
n
o
e
 
X
c
o
l
 
w
h
i
c
h
 
v
i
 
v
b
)
.
1
 
∧
 
u
u
 
=
 
(
F
_
L
_
a
l
t
e
r
_
e
 
X
s
e
c
r
e
t
 
X
e
0
 
X
e
1
 
X
n
o
e
 
X
c
o
l
 
w
h
i
c
h
 
v
i
 
v
b
)
.
2
)
 
(
f
u
n
 
(
u
u
 
:
 
g
R
o
w
 
×
 
g
R
o
w
 
×
 
g
R
o
w
 
×
 
g
R
o
w
 
×
 
g
R
o
w
)
 
=
>
 
[
(
h
,
 
.
i
n
r
 
(
1
1
,
 
[
.
r
e
f
 
h
l
k
,
 
.
r
e
f
 
h
v
,
 
.
r
e
f
 
h
t
,
 
.
r
e
f
 
h
c
o
l
,
 
.
r
e
f
 
h
a
n
s
,
 
.
i
n
t
 
c
f
o
r
,
 
.
i
n
t
 
c
b
a
c
k
,
 
.
i
n
t
 
f
i
l
t
]
)
)
,
 
(
h
v
,
 
.
i
n
r
 
(
1
0
,
 
[
.
i
n
t
 
(
n
I
 
r
v
)
,
 
.
r
e
f
 
h
u
s
e
r
,
 
.
r
e
f
 
h
o
w
n
e
r
,
 
.
r
e
f
 
h
t
r
i
e
d
,
 
.
r
e
f
 
h
i
d
e
n
t
,
 
.
r
e
f
 
h
t
a
p
e
,
 
.
i
n
t
 
g
i
v
e
n
,
 
.
r
e
f
 
h
s
e
c
r
e
t
,
 
.
r
e
f
 
q
e
n
t
,
 
.
r
e
f
 
h
n
o
e
,
 
.
i
n
t
 
p
e
r
m
,
 
.
i
n
t
 
p
l
a
i
n
]
)
)
,
 
(
h
s
e
c
r
e
t
,
 
.
i
n
r
 
(
6
,
 
[
.
r
e
f
 
a
s
e
c
r
e
t
,
 
.
i
n
t
 
u
u
.
1
.
1
]
)
)
,
 
(
q
e
n
t
,
 
.
i
n
l
 
(
E
.
2
.
2
.
1
,
 
2
,
 
.
i
n
r
 
(
.
i
n
r
 
(
.
i
n
r
 
(
.
i
n
r
 
(
g
E
n
t
 
[
h
e
0
,
 
h
e
1
]
)
)
)
)
)
)
,
 
(
h
e
0
,
 
.
i
n
r
 
(
6
,
 
[
.
r
e
f
 
a
e
0
,
 
.
i
n
t
 
u
u
.
2
.
1
.
1
]
)
)
,
 
(
a
e
0
,
 
.
i
n
l
 
(
E
.
2
.
1
,
 
4
8
,
 
.
i
n
l
 
u
u
.
2
.
1
.
2
)
)
,
 
(
h
e
1
,
 
.
i
n
r
 
(
6
,
 
[
.
r
e
f
 
a
e
1
,
 
.
i
n
t
 
u
u
.
2
.
2
.
1
.
1
]
)
)
,
 
(
a
e
1
,
 
.
i
n
l
 
(
E
.
2
.
1
,
 
4
8
,
 
.
i
n
l
 
u
u
.
2
.
2
.
1
.
2
)
)
,
 
(
h
n
o
e
,
 
.
i
n
r
 
(
6
,
 
[
.
r
e
f
 
a
n
o
e
,
 
.
i
n
t
 
u
u
.
2
.
2
.
2
.
1
.
1
]
)
)
,
 
(
a
n
o
e
,
 
.
i
n
l
 
(
E
.
2
.
1
,
 
0
,
 
.
i
n
l
 
u
u
.
2
.
2
.
2
.
1
.
2
)
)
,
 
(
h
c
o
l
,
 
.
i
n
r
 
(
6
,
 
[
.
r
e
f
 
a
c
o
l
,
 
.
i
n
t
 
u
u
.
2
.
2
.
2
.
2
.
1
]
)
)
]
)
 
:
=
 
b
y


 
 
i
n
t
r
o
 
s
z


 
 
r
e
f
i
n
e
 
v
x
_
o
f
W
H
 
(
h
h
 
:
=
 
[
(
0
,
 
7
,
 
1
0
,
 
3
2
)
]
)
 
(
c
c
 
:
=
 
c
L
_
a
l
t
e
r
)
 
(
m
a
x
L
 
:
=
 
5
)
 
(
r
e
t
 
:
=
 
(
s
o
m
e
 
.
i
n
t
)
)
 
(
b
y
 
d
e
c
i
d
e
)
 
r
f
l
 
?
_


 
 
i
n
t
r
o
 
p
 
e
 
s
 
m
 
a
r
g
s
 
b
e
l
o
w
 
m
e
t
h
 
c
 
s
₁
 
B
 
h
m
l
 
h
v


 
 
o
b
t
a
i
n
 
⟨
r
f
l
,
 
h
s
z
,
 
h
P
,
 
⟨
h
V
,
 
h
X
,
 
h
L
⟩
,
 
h
D
0
⟩
 
:
=
 
h
v


 
 
h
a
v
e
 
h
x
 
:
=
 
B
.
e
x
e
c


 
 
h
a
v
e
 
h
b
 
:
=
 
B
.
b
y
t
e
s


 
 
h
a
v
e
 
h
r
 
:
=
 
B
.
r
e
t
u
r
n
s


 
 
h
a
v
e
 
h
t
s
 
:
=
 
a
t
o
m
s
_
s
p
e
c
 
(
w
s
 
:
=
 
w
s
L
_
a
l
t
e
r
)
 
B
.
p
r
e


 
 
h
a
v
e
 
h
o
w
n
 
:
 
s
.
v
m
.
f
i
n
d
C
l
a
s
s
 
R
L
 
=
 
s
o
m
e
 
m
.
c
l
s
 
:
=
 
f
i
n
d
C
l
a
s
s
_
o
f
_
m
e
t
h
o
d
N
a
m
e
d
 
B
.
n
a
m
e
d


 
 
h
a
v
e
 
h
l
o
c
k
s
 
:
=
 
B
.
n
o
t
S
y
n
c
h
r
o
n
i
z
e
d


 
 
h
a
v
e
 
h
t
a
b
 
:
=
 
v
x
_
t
a
b
l
e
 
B
 
(
h
t
s
 
(
.
c
o
d
e
W
i
t
h
 
y
L
_
a
l
t
e
r
 
c
L
_
a
l
t
e
r
 
5
 
(
s
o
m
e
 
.
i
n
t
)
 
[
(
0
,
 
7
,
 
1
0
,
 
3
2
)
]
)
 
(
b
y
 
d
e
c
i
d
e
 
+
k
e
r
n
e
l
)
)


 
 
s
u
b
s
t
 
h
s
z


 
 
h
a
v
e
 
h
D
 
:
=
 
h
D
0
.
s
e
l
f
 
(
s
z
 
:
=
 
s
.
h
e
a
p
.
s
i
z
e
)


 
 
c
l
e
a
r
 
h
D
0


 
 
g
e
n
e
r
a
l
i
z
e
 
h
A
e
 
:
 
v
a
_
A
 
[
(
h
,
 
.
i
n
r
 
(
1
1
,
 
[
.
r
e
f
 
h
l
k
,
 
.
r
e
f
 
h
v
,
 
.
r
e
f
 
h
t
,
 
.
r
e
f
 
h
c
o
l
,
 
.
r
e
f
 
h
a
n
s
,
 
.
i
n
t
 
c
f
o
r
,
 
.
i
n
t
 
c
b
a
c
k
,
 
.
i
n
t
 
f
i
l
t
]
)
)
,
 
(
h
v
,
 
.
i
n
r
 
(
1
0
,
 
[
.
i
n
t
 
(
n
I
 
r
v
)
,
 
.
r
e
f
 
h
u
s
e
r
,
 
.
r
e
f
 
h
o
w
n
e
r
,
 
.
r
e
f
 
h
t
r
i
e
d
,
 
.
r
e
f
 
h
i
d
e
n
t
,
 
.
r
e
f
 
h
t
a
p
e
,
 
.
i
n
t
 
g
i
v
e
n
,
 
.
r
e
f
 
h
s
e
c
r
e
t
,
 
.
r
e
f
 
q
e
n
t
,
 
.
r
e
f
 
h
n
o
e
,
 
.
i
n
t
 
p
e
r
m
,
 
.
i
n
t
 
p
l
a
i
n
]
)
)
,
 
(
h
s
e
c
r
e
t
,
 
.
i
n
r
 
(
6
,
 
[
.
r
e
f
 
a
s
e
c
r
e
t
,
 
.
i
n
t
 
X
s
e
c
r
e
t
.
1
]
)
)
,
 
(
q
e
n
t
,
 
.
i
n
l
 
(
E
.
2
.
2
.
1
,
 
2
,
 
.
i
n
r
 
(
.
i
n
r
 
(
.
i
n
r
 
(
.
i
n
r
 
(
g
E
n
t
 
[
h
e
0
,
 
h
e
1
]
)
)
)
)
)
)
,
 
(
h
e
0
,
 
.
i
n
r
 
(
6
,
 
[
.
r
e
f
 
a
e
0
,
 
.
i
n
t
 
X
e
0
.
1
]
)
)
,
 
(
a
e
0
,
 
.
i
n
l
 
(
E
.
2
.
1
,
 
4
8
,
 
.
i
n
l
 
X
e
0
.
2
)
)
,
 
(
h
e
1
,
 
.
i
n
r
 
(
6
,
 
[
.
r
e
f
 
a
e
1
,
 
.
i
n
t
 
X
e
1
.
1
]
)
)
,
 
(
a
e
1
,
 
.
i
n
l
 
(
E
.
2
.
1
,
 
4
8
,
 
.
i
n
l
 
X
e
1
.
2
)
)
,
 
(
h
n
o
e
,
 
.
i
n
r
 
(
6
,
 
[
.
r
e
f
 
a
n
o
e
,
 
.
i
n
t
 
X
n
o
e
.
1
]
)
)
,
 
(
a
n
o
e
,
 
.
i
n
l
 
(
E
.
2
.
1
,
 
0
,
 
.
i
n
l
 
X
n
o
e
.
2
)
)
,
 
(
h
c
o
l
,
 
.
i
n
r
 
(
6
,
 
[
.
r
e
f
 
a
c
o
l
,
 
.
i
n
t
 
X
c
o
l
.
1
]
)
)
]
 
s
.
h
e
a
p
.
s
i
z
e
 
=
 
A
 
a
t
 
h
D
 
h
V
 
h
X
 
⊢


 
 
h
a
v
e
 
h
A
 
:
 
∀
 
q
 
:
 
N
a
t
,
 
s
.
h
e
a
p
.
s
i
z
e
 
≤
 
q
 
→
 
A
 
q
 
:
=
 
f
u
n
 
q
 
h
 
=
>
 
b
y
 
r
w
 
[
←
 
h
A
e
]
;
 
e
x
a
c
t
 
O
r
.
i
n
r
 
h


 
 
h
a
v
e
 
h
S
 
:
 
v
a
_
S
 
A
 
s
.
h
e
a
p
 
s
.
h
e
a
p
 
[
]
 
:
=
 
v
a
_
S
.
r
f


 
 
h
a
v
e
 
h
K
 
:
=
 
h
V
.
1


 
 
h
a
v
e
 
h
F
 
:
 
C
a
l
l
F
i
x
 
p
 
m
 
c
 
c
L
_
a
l
t
e
r
 
5
 
s
 
_
 
w
s
L
_
a
l
t
e
r
 
R
L
 
:
=
 
⟨
h
x
,
 
h
b
,
 
h
m
l
,
 
h
o
w
n
,
 
h
t
s
⟩


 
 
h
a
v
e
 
h
l
 
:
=
 
l
v
_
e
n
t
r
y
 
[
.
r
e
f
 
h
,
 
.
i
n
t
 
w
h
i
c
h
,
 
.
i
n
t
 
v
i
,
 
.
i
n
t
 
v
b
]
 
(
n
 
:
=
 
5
)
 
(
N
a
t
.
l
e
_
o
f
_
b
l
e
_
e
q
_
t
r
u
e
 
r
f
l
)


 
 
r
w
 
[
l
g
_
e
n
t
r
y
_
e
q
]


 
 
g
e
n
e
r
a
l
i
z
e
 
(
l
g
_
s
l
 
[
.
r
e
f
 
h
,
 
.
i
n
t
 
w
h
i
c
h
,
 
.
i
n
t
 
v
i
,
 
.
i
n
t
 
v
b
]
 
+
+
 
L
i
s
t
.
r
e
p
l
i
c
a
t
e
 
(
5
 
-
 
(
l
g
_
s
l
 
[
.
r
e
f
 
h
,
 
.
i
n
t
 
w
h
i
c
h
,
 
.
i
n
t
 
v
i
,
 
.
i
n
t
 
v
b
]
)
.
l
e
n
g
t
h
)
 
S
l
o
t
.
u
n
s
e
t
)
.
t
o
A
r
r
a
y
 
=
 
l
s
 
a
t
 
h
l
 
⊢


 
 
h
a
v
e
 
h
l
 
:
 
l
v
_
h
a
s
 
l
s
 
5
 
[
(
0
,
 
.
r
e
f
 
h
)
,
 
(
1
,
 
.
i
n
t
 
w
h
i
c
h
)
,
 
(
2
,
 
.
i
n
t
 
v
i
)
,
 
(
3
,
 
.
i
n
t
 
v
b
)
]
 
:
=
 
h
l


 
 
h
a
v
e
 
w
_
0
 
:
=
 
h
t
s
 
(
.
c
l
a
s
s
L
i
n
k
 
R
L
 
3
2
 
"
j
a
v
a
/
l
a
n
g
/
I
n
d
e
x
O
u
t
O
f
B
o
u
n
d
s
E
x
c
e
p
t
i
o
n
"
)
 
(
b
y
 
d
e
c
i
d
e
 
+
k
e
r
n
e
l
)


 
 
r
e
f
i
n
e
 
l
v
_
a
l
o
a
d
_
n
 
h
x
 
h
b
 
d
L
_
a
l
t
e
r
_
0
 
r
f
l
 
(
l
v
_
a
t
 
h
l
 
0
 
r
f
l
)
 
?
_


 
 
r
e
f
i
n
e
 
l
v
_
i
l
o
a
d
_
n
 
h
x
 
h
b
 
d
L
_
a
l
t
e
r
_
1
 
r
f
l
 
(
l
v
_
a
t
 
h
l
 
1
 
r
f
l
)
 
?
_


 
 
r
e
f
i
n
e
 
l
v
_
i
l
o
a
d
_
n
 
h
x
 
h
b
 
d
L
_
a
l
t
e
r
_
2
 
r
f
l
 
(
l
v
_
a
t
 
h
l
 
2
 
r
f
l
)
 
?
_


 
 
r
e
f
i
n
e
 
l
v
_
i
l
o
a
d
_
n
 
h
x
 
h
b
 
d
L
_
a
l
t
e
r
_
3
 
r
f
l
 
(
l
v
_
a
t
 
h
l
 
3
 
r
f
l
)
 
?
_


 
 
o
b
t
a
i
n
 
⟨
t
_
2
3
,
 
h
t
_
2
3
⟩
 
:
 
∃
 
t
9
 
:
 
N
a
t
 
×
 
(
g
R
o
w
 
×
 
g
R
o
w
 
×
 
g
R
o
w
 
×
 
g
R
o
w
 
×
 
g
R
o
w
)
,
 
t
9
 
=
 
F
_
X
1
0
_
a
l
t
e
r
_
e
 
X
s
e
c
r
e
t
 
X
e
0
 
X
e
1
 
X
n
o
e
 
X
c
o
l
 
w
h
i
c
h
 
v
i
 
v
b
 
:
=
 
⟨
_
,
 
r
f
l
⟩


 
 
r
e
f
i
n
e
 
g
T
V
v
 
h
F
 
h
l
 
h
V
 
h
X
 
h
P
 
h
D
 
h
S
 
h
A
 
[
0
,
 
1
,
 
2
,
 
3
,
 
4
,
 
5
,
 
6
,
 
7
,
 
8
,
 
9
,
 
1
0
]
 
[
]
 
(
w
c
 
:
=
 
[
(
h
,
 
.
i
n
r
 
(
1
1
,
 
[
.
r
e
f
 
h
l
k
,
 
.
r
e
f
 
h
v
,
 
.
r
e
f
 
h
t
,
 
.
r
e
f
 
h
c
o
l
,
 
.
r
e
f
 
h
a
n
s
,
 
.
i
n
t
 
c
f
o
r
,
 
.
i
n
t
 
c
b
a
c
k
,
 
.
i
n
t
 
f
i
l
t
]
)
)
,
 
(
h
v
,
 
.
i
n
r
 
(
1
0
,
 
[
.
i
n
t
 
(
n
I
 
r
v
)
,
 
.
r
e
f
 
h
u
s
e
r
,
 
.
r
e
f
 
h
o
w
n
e
r
,
 
.
r
e
f
 
h
t
r
i
e
d
,
 
.
r
e
f
 
h
i
d
e
n
t
,
 
.
r
e
f
 
h
t
a
p
e
,
 
.
i
n
t
 
g
i
v
e
n
,
 
.
r
e
f
 
h
s
e
c
r
e
t
,
 
.
r
e
f
 
q
e
n
t
,
 
.
r
e
f
 
h
n
o
e
,
 
.
i
n
t
 
p
e
r
m
,
 
.
i
n
t
 
p
l
a
i
n
]
)
)
,
 
(
h
s
e
c
r
e
t
,
 
.
i
n
r
 
(
6
,
 
[
.
r
e
f
 
a
s
e
c
r
e
t
,
 
.
i
n
t
 
X
s
e
c
r
e
t
.
1
]
)
)
,
 
(
q
e
n
t
,
 
.
i
n
l
 
(
E
.
2
.
2
.
1
,
 
2
,
 
.
i
n
r
 
(
.
i
n
r
 
(
.
i
n
r
 
(
.
i
n
r
 
(
g
E
n
t
 
[
h
e
0
,
 
h
e
1
]
)
)
)
)
)
)
,
 
(
h
e
0
,
 
.
i
n
r
 
(
6
,
 
[
.
r
e
f
 
a
e
0
,
 
.
i
n
t
 
X
e
0
.
1
]
)
)
,
 
(
a
e
0
,
 
.
i
n
l
 
(
E
.
2
.
1
,
 
4
8
,
 
.
i
n
l
 
X
e
0
.
2
)
)
,
 
(
h
e
1
,
 
.
i
n
r
 
(
6
,
 
[
.
r
e
f
 
a
e
1
,
 
.
i
n
t
 
X
e
1
.
1
]
)
)
,
 
(
a
e
1
,
 
.
i
n
l
 
(
E
.
2
.
1
,
 
4
8
,
 
.
i
n
l
 
X
e
1
.
2
)
)
,
 
(
h
n
o
e
,
 
.
i
n
r
 
(
6
,
 
[
.
r
e
f
 
a
n
o
e
,
 
.
i
n
t
 
X
n
o
e
.
1
]
)
)
,
 
(
a
n
o
e
,
 
.
i
n
l
 
(
E
.
2
.
1
,
 
0
,
 
.
i
n
l
 
X
n
o
e
.
2
)
)
,
 
(
h
c
o
l
,
 
.
i
n
r
 
(
6
,
 
[
.
r
e
f
 
a
c
o
l
,
 
.
i
n
t
 
X
c
o
l
.
1
]
)
)
]
)
 
(
w
r
 
:
=
 
[
]
)
 
r
f
l
 
r
f
l
 
r
f
l
 
(
b
y
 
d
e
c
i
d
e
)
 
0
 
1
1
 
r
f
l
 
r
f
l
 
r
f
l
 
(
k
_
X
1
0
_
a
l
t
e
r
_
e
 
E
 
s
a
 
l
 
h
s
t
 
h
 
h
l
k
 
h
v
 
h
t
 
h
c
o
l
 
h
a
n
s
 
h
u
s
e
r
 
h
o
w
n
e
r
 
h
t
r
i
e
d
 
h
i
d
e
n
t
 
h
t
a
p
e
 
h
s
e
c
r
e
t
 
q
e
n
t
 
h
n
o
e
 
a
s
e
c
r
e
t
 
h
e
0
 
h
e
1
 
a
e
0
 
a
e
1
 
a
n
o
e
 
a
c
o
l
 
r
v
 
c
f
o
r
 
c
b
a
c
k
 
f
i
l
t
 
g
i
v
e
n
 
p
e
r
m
 
p
l
a
i
n
 
X
s
e
c
r
e
t
 
X
e
0
 
X
e
1
 
X
n
o
e
 
X
c
o
l
 
w
h
i
c
h
 
v
i
 
v
b
)
 
(
c
w
V
 
3
 
h
t
s
 
g
L
_
a
l
t
e
r
_
X
1
0
_
a
l
t
e
r
 
r
f
l
 
r
f
l
 
r
f
l
 
(
b
y
 
d
e
c
i
d
e
 
+
k
e
r
n
e
l
)
 
⟨
N
a
t
.
l
e
_
o
f
_
b
l
e
_
e
q
_
t
r
u
e
 
r
f
l
,
 
N
a
t
.
l
e
_
o
f
_
b
l
e
_
e
q
_
t
r
u
e
 
r
f
l
⟩
)
 
r
f
l
 
r
f
l
 
r
f
l
 
(
N
a
t
.
l
e
_
o
f
_
b
l
e
_
e
q
_
t
r
u
e
 
r
f
l
)
 
d
L
_
a
l
t
e
r
_
4
 
⟨
N
a
t
.
l
e
_
o
f
_
b
l
e
_
e
q
_
t
r
u
e
 
r
f
l
,
 
N
a
t
.
l
e
_
o
f
_
b
l
e
_
e
q
_
t
r
u
e
 
r
f
l
⟩
 
(
f
u
n
 
n
m
_
2
4
 
c
e
_
2
4
 
q
_
2
4
 
H
_
2
5
 
l
o
c
s
_
2
5
 
p
x
_
2
4
 
h
P
_
2
5
 
h
D
_
2
5
 
h
S
_
2
5
 
h
c
e
_
2
4
 
h
c
v
_
2
4
 
h
c
l
_
2
4
 
=
>
 
?
_
)
 
(
f
u
n
 
u
_
2
1
 
H
_
2
2
 
l
o
c
s
_
2
2
 
h
u
_
2
1
 
h
P
_
2
2
 
h
D
_
2
2
 
h
S
_
2
2
 
=
>
 
?
_
)


 
 
·
 
r
e
p
l
a
c
e
 
h
P
_
2
5
 
:
 
v
a
_
P
 
E
.
1
 
v
w
C
l
 
[
(
h
,
 
.
i
n
r
 
(
1
1
,
 
[
.
r
e
f
 
h
l
k
,
 
.
r
e
f
 
h
v
,
 
.
r
e
f
 
h
t
,
 
.
r
e
f
 
h
c
o
l
,
 
.
r
e
f
 
h
a
n
s
,
 
.
i
n
t
 
c
f
o
r
,
 
.
i
n
t
 
c
b
a
c
k
,
 
.
i
n
t
 
f
i
l
t
]
)
)
,
 
(
h
v
,
 
.
i
n
r
 
(
1
0
,
 
[
.
i
n
t
 
(
n
I
 
r
v
)
,
 
.
r
e
f
 
h
u
s
e
r
,
 
.
r
e
f
 
h
o
w
n
e
r
,
 
.
r
e
f
 
h
t
r
i
e
d
,
 
.
r
e
f
 
h
i
d
e
n
t
,
 
.
r
e
f
 
h
t
a
p
e
,
 
.
i
n
t
 
g
i
v
e
n
,
 
.
r
e
f
 
h
s
e
c
r
e
t
,
 
.
r
e
f
 
q
e
n
t
,
 
.
r
e
f
 
h
n
o
e
,
 
.
i
n
t
 
p
e
r
m
,
 
.
i
n
t
 
p
l
a
i
n
]
)
)
,
 
(
h
s
e
c
r
e
t
,
 
.
i
n
r
 
(
6
,
 
[
.
r
e
f
 
a
s
e
c
r
e
t
,
 
.
i
n
t
 
X
s
e
c
r
e
t
.
1
]
)
)
,
 
(
q
e
n
t
,
 
.
i
n
l
 
(
E
.
2
.
2
.
1
,
 
2
,
 
.
i
n
r
 
(
.
i
n
r
 
(
.
i
n
r
 
(
.
i
n
r
 
(
g
E
n
t
 
[
h
e
0
,
 
h
e
1
]
)
)
)
)
)
)
,
 
(
h
e
0
,
 
.
i
n
r
 
(
6
,
 
[
.
r
e
f
 
a
e
0
,
 
.
i
n
t
 
X
e
0
.
1
]
)
)
,
 
(
a
e
0
,
 
.
i
n
l
 
(
E
.
2
.
1
,
 
4
8
,
 
.
i
n
l
 
X
e
0
.
2
)
)
,
 
(
h
e
1
,
 
.
i
n
r
 
(
6
,
 
[
.
r
e
f
 
a
e
1
,
 
.
i
n
t
 
X
e
1
.
1
]
)
)
,
 
(
a
e
1
,
 
.
i
n
l
 
(
E
.
2
.
1
,
 
4
8
,
 
.
i
n
l
 
X
e
1
.
2
)
)
,
 
(
h
n
o
e
,
 
.
i
n
r
 
(
6
,
 
[
.
r
e
f
 
a
n
o
e
,
 
.
i
n
t
 
X
n
o
e
.
1
]
)
)
,
 
(
a
n
o
e
,
 
.
i
n
l
 
(
E
.
2
.
1
,
 
0
,
 
.
i
n
l
 
X
n
o
e
.
2
)
)
,
 
(
h
c
o
l
,
 
.
i
n
r
 
(
6
,
 
[
.
r
e
f
 
a
c
o
l
,
 
.
i
n
t
 
X
c
o
l
.
1
]
)
)
]
 
H
_
2
5
 
:
=
 
h
P
_
2
5


 
 
 
 
r
e
p
l
a
c
e
 
h
D
_
2
5
 
:
 
v
a
_
D
 
A
 
[
(
h
,
 
.
i
n
r
 
(
1
1
,
 
[
.
r
e
f
 
h
l
k
,
 
.
r
e
f
 
h
v
,
 
.
r
e
f
 
h
t
,
 
.
r
e
f
 
h
c
o
l
,
 
.
r
e
f
 
h
a
n
s
,
 
.
i
n
t
 
c
f
o
r
,
 
.
i
n
t
 
c
b
a
c
k
,
 
.
i
n
t
 
f
i
l
t
]
)
)
,
 
(
h
v
,
 
.
i
n
r
 
(
1
0
,
 
[
.
i
n
t
 
(
n
I
 
r
v
)
,
 
.
r
e
f
 
h
u
s
e
r
,
 
.
r
e
f
 
h
o
w
n
e
r
,
 
.
r
e
f
 
h
t
r
i
e
d
,
 
.
r
e
f
 
h
i
d
e
n
t
,
 
.
r
e
f
 
h
t
a
p
e
,
 
.
i
n
t
 
g
i
v
e
n
,
 
.
r
e
f
 
h
s
e
c
r
e
t
,
 
.
r
e
f
 
q
e
n
t
,
 
.
r
e
f
 
h
n
o
e
,
 
.
i
n
t
 
p
e
r
m
,
 
.
i
n
t
 
p
l
a
i
n
]
)
)
,
 
(
h
s
e
c
r
e
t
,
 
.
i
n
r
 
(
6
,
 
[
.
r
e
f
 
a
s
e
c
r
e
t
,
 
.
i
n
t
 
X
s
e
c
r
e
t
.
1
]
)
)
,
 
(
q
e
n
t
,
 
.
i
n
l
 
(
E
.
2
.
2
.
1
,
 
2
,
 
.
i
n
r
 
(
.
i
n
r
 
(
.
i
n
r
 
(
.
i
n
r
 
(
g
E
n
t
 
[
h
e
0
,
 
h
e
1
]
)
)
)
)
)
)
,
 
(
h
e
0
,
 
.
i
n
r
 
(
6
,
 
[
.
r
e
f
 
a
e
0
,
 
.
i
n
t
 
X
e
0
.
1
]
)
)
,
 
(
a
e
0
,
 
.
i
n
l
 
(
E
.
2
.
1
,
 
4
8
,
 
.
i
n
l
 
X
e
0
.
2
)
)
,
 
(
h
e
1
,
 
.
i
n
r
 
(
6
,
 
[
.
r
e
f
 
a
e
1
,
 
.
i
n
t
 
X
e
1
.
1
]
)
)
,
 
(
a
e
1
,
 
.
i
n
l
 
(
E
.
2
.
1
,
 
4
8
,
 
.
i
n
l
 
X
e
1
.
2
)
)
,
 
(
h
n
o
e
,
 
.
i
n
r
 
(
6
,
 
[
.
r
e
f
 
a
n
o
e
,
 
.
i
n
t
 
X
n
o
e
.
1
]
)
)
,
 
(
a
n
o
e
,
 
.
i
n
l
 
(
E
.
2
.
1
,
 
0
,
 
.
i
n
l
 
X
n
o
e
.
2
)
)
,
 
(
h
c
o
l
,
 
.
i
n
r
 
(
6
,
 
[
.
r
e
f
 
a
c
o
l
,
 
.
i
n
t
 
X
c
o
l
.
1
]
)
)
]
 
:
=
 
h
D
_
2
5


 
 
 
 
c
l
e
a
r
 
h
P
 
h
D
 
h
S


 
 
 
 
h
a
v
e
 
c
_
2
6
 
:
 
¬
 
t
_
2
3
.
1
 
=
 
0
 
:
=
 
b
y
 
r
w
 
[
h
t
_
2
3
]
;
 
e
x
a
c
t
 
p
x
_
2
4
.
2


 
 
 
 
h
a
v
e
 
c
_
2
7
 
:
 
t
_
2
3
.
1
 
=
 
4
 
:
=
 
b
y
 
h
a
v
e
 
q
9
 
:
=
 
L
c
_
X
1
0
_
a
l
t
e
r
_
e
 
_
 
_
 
_
 
_
 
_
 
_
 
_
 
_
;
 
r
w
 
[
←
 
h
t
_
2
3
]
 
a
t
 
q
9
;
 
o
m
e
g
a


 
 
 
 
o
b
t
a
i
n
 
r
f
l
 
:
 
n
m
_
2
4
 
=
 
"
j
a
v
a
/
l
a
n
g
/
I
n
d
e
x
O
u
t
O
f
B
o
u
n
d
s
E
x
c
e
p
t
i
o
n
"
 
:
=
 
p
x
_
2
4
.
1
.
t
r
a
n
s
 
(
b
y
 
r
w
 
[
←
 
h
t
_
2
3
,
 
c
_
2
7
]
;
 
r
f
l
)


 
 
 
 
r
e
f
i
n
e
 
v
x
_
c
a
t
c
h
 
h
o
w
n
 
[
]
 
⟨
0
,
 
7
,
 
1
0
,
 
3
2
⟩
 
[
]
 
(
b
y
 
r
w
 
[
h
t
a
b
]
;
 
r
f
l
)
 
(
f
u
n
 
z
 
h
9
 
=
>
 
a
b
s
u
r
d
 
h
9
 
L
i
s
t
.
n
o
t
_
m
e
m
_
n
i
l
)
 
(
b
y
 
d
e
c
i
d
e
)
 
(
b
y
 
d
e
c
i
d
e
)
 
w
_
0
 
(
v
a
_
N
w
.
u
s
e
 
r
f
l
 
(
h
X
.
2
.
1
 
(
.
c
a
s
t
a
b
l
e
 
"
j
a
v
a
/
l
a
n
g
/
I
n
d
e
x
O
u
t
O
f
B
o
u
n
d
s
E
x
c
e
p
t
i
o
n
"
 
"
j
a
v
a
/
l
a
n
g
/
I
n
d
e
x
O
u
t
O
f
B
o
u
n
d
s
E
x
c
e
p
t
i
o
n
"
)
 
(
b
y
 
d
e
c
i
d
e
 
+
k
e
r
n
e
l
)
)
)
 
h
c
e
_
2
4
 
h
c
v
_
2
4
 
h
c
l
_
2
4
 
?
_


 
 
 
 
r
e
f
i
n
e
 
l
v
_
a
s
t
o
r
e
 
(
l
v
'
 
:
=
 
[
(
4
,
 
.
r
e
f
 
q
_
2
4
)
,
 
(
0
,
 
.
r
e
f
 
h
)
,
 
(
1
,
 
.
i
n
t
 
w
h
i
c
h
)
,
 
(
2
,
 
.
i
n
t
 
v
i
)
,
 
(
3
,
 
.
i
n
t
 
v
b
)
]
)
 
h
x
 
h
b
 
d
L
_
a
l
t
e
r
_
1
0
 
h
l
 
(
b
y
 
d
e
c
i
d
e
)
 
r
f
l
 
(
f
u
n
 
l
s
_
2
8
 
h
l
_
2
8
 
=
>
 
?
_
)


 
 
 
 
c
l
e
a
r
 
h
l


 
 
 
 
r
e
f
i
n
e
 
l
v
_
i
c
o
n
s
t
 
(
v
 
:
=
 
1
)
 
h
x
 
h
b
 
d
L
_
a
l
t
e
r
_
1
2
 
(
b
y
 
d
e
c
i
d
e
)
 
?
_


 
 
 
 
r
e
f
i
n
e
 
v
x
_
r
e
t
 
?
_


 
 
 
 
h
a
v
e
 
h
p
o
s
t
 
:
 
(
(
1
,
 
(
X
s
e
c
r
e
t
,
 
X
e
0
,
 
X
e
1
,
 
X
n
o
e
,
 
X
c
o
l
)
)
 
:
 
I
n
t
3
2
 
×
 
(
g
R
o
w
 
×
 
g
R
o
w
 
×
 
g
R
o
w
 
×
 
g
R
o
w
 
×
 
g
R
o
w
)
)
 
=
 
F
_
L
_
a
l
t
e
r
_
e
 
X
s
e
c
r
e
t
 
X
e
0
 
X
e
1
 
X
n
o
e
 
X
c
o
l
 
w
h
i
c
h
 
v
i
 
v
b
 
:
=
 
(
s
h
o
w
 
F
_
L
_
a
l
t
e
r
_
e
 
X
s
e
c
r
e
t
 
X
e
0
 
X
e
1
 
X
n
o
e
 
X
c
o
l
 
w
h
i
c
h
 
v
i
 
v
b
 
=
 
(
(
1
,
 
(
X
s
e
c
r
e
t
,
 
X
e
0
,
 
X
e
1
,
 
X
n
o
e
,
 
X
c
o
l
)
)
 
:
 
I
n
t
3
2
 
×
 
(
g
R
o
w
 
×
 
g
R
o
w
 
×
 
g
R
o
w
 
×
 
g
R
o
w
 
×
 
g
R
o
w
)
)
 
f
r
o
m
 
(
g
L
e
t
_
e
q
 
h
t
_
2
3
 
(
(
i
f
_
n
e
g
 
c
_
2
6
)
.
t
r
a
n
s
 
r
f
l
)
)
)
.
s
y
m
m


 
 
 
 
h
a
v
e
 
h
P
9
 
:
=
 
h
P
_
2
5
.
s
u
b
 
(
w
s
'
 
:
=
 
[
(
h
,
 
.
i
n
r
 
(
1
1
,
 
[
.
r
e
f
 
h
l
k
,
 
.
r
e
f
 
h
v
,
 
.
r
e
f
 
h
t
,
 
.
r
e
f
 
h
c
o
l
,
 
.
r
e
f
 
h
a
n
s
,
 
.
i
n
t
 
c
f
o
r
,
 
.
i
n
t
 
c
b
a
c
k
,
 
.
i
n
t
 
f
i
l
t
]
)
)
,
 
(
h
v
,
 
.
i
n
r
 
(
1
0
,
 
[
.
i
n
t
 
(
n
I
 
r
v
)
,
 
.
r
e
f
 
h
u
s
e
r
,
 
.
r
e
f
 
h
o
w
n
e
r
,
 
.
r
e
f
 
h
t
r
i
e
d
,
 
.
r
e
f
 
h
i
d
e
n
t
,
 
.
r
e
f
 
h
t
a
p
e
,
 
.
i
n
t
 
g
i
v
e
n
,
 
.
r
e
f
 
h
s
e
c
r
e
t
,
 
.
r
e
f
 
q
e
n
t
,
 
.
r
e
f
 
h
n
o
e
,
 
.
i
n
t
 
p
e
r
m
,
 
.
i
n
t
 
p
l
a
i
n
]
)
)
,
 
(
h
s
e
c
r
e
t
,
 
.
i
n
r
 
(
6
,
 
[
.
r
e
f
 
a
s
e
c
r
e
t
,
 
.
i
n
t
 
X
s
e
c
r
e
t
.
1
]
)
)
,
 
(
q
e
n
t
,
 
.
i
n
l
 
(
E
.
2
.
2
.
1
,
 
2
,
 
.
i
n
r
 
(
.
i
n
r
 
(
.
i
n
r
 
(
.
i
n
r
 
(
g
E
n
t
 
[
h
e
0
,
 
h
e
1
]
)
)
)
)
)
)
,
 
(
h
e
0
,
 
.
i
n
r
 
(
6
,
 
[
.
r
e
f
 
a
e
0
,
 
.
i
n
t
 
X
e
0
.
1
]
)
)
,
 
(
a
e
0
,
 
.
i
n
l
 
(
E
.
2
.
1
,
 
4
8
,
 
.
i
n
l
 
X
e
0
.
2
)
)
,
 
(
h
e
1
,
 
.
i
n
r
 
(
6
,
 
[
.
r
e
f
 
a
e
1
,
 
.
i
n
t
 
X
e
1
.
1
]
)
)
,
 
(
a
e
1
,
 
.
i
n
l
 
(
E
.
2
.
1
,
 
4
8
,
 
.
i
n
l
 
X
e
1
.
2
)
)
,
 
(
h
n
o
e
,
 
.
i
n
r
 
(
6
,
 
[
.
r
e
f
 
a
n
o
e
,
 
.
i
n
t
 
X
n
o
e
.
1
]
)
)
,
 
(
a
n
o
e
,
 
.
i
n
l
 
(
E
.
2
.
1
,
 
0
,
 
.
i
n
l
 
X
n
o
e
.
2
)
)
,
 
(
h
c
o
l
,
 
.
i
n
r
 
(
6
,
 
[
.
r
e
f
 
a
c
o
l
,
 
.
i
n
t
 
X
c
o
l
.
1
]
)
)
]
)
 
[
0
,
 
1
,
 
2
,
 
3
,
 
4
,
 
5
,
 
6
,
 
7
,
 
8
,
 
9
,
 
1
0
]
 
r
f
l


 
 
 
 
h
a
v
e
 
h
D
9
 
:
=
 
h
D
_
2
5
.
s
u
b
 
(
w
s
'
 
:
=
 
[
(
h
,
 
.
i
n
r
 
(
1
1
,
 
[
.
r
e
f
 
h
l
k
,
 
.
r
e
f
 
h
v
,
 
.
r
e
f
 
h
t
,
 
.
r
e
f
 
h
c
o
l
,
 
.
r
e
f
 
h
a
n
s
,
 
.
i
n
t
 
c
f
o
r
,
 
.
i
n
t
 
c
b
a
c
k
,
 
.
i
n
t
 
f
i
l
t
]
)
)
,
 
(
h
v
,
 
.
i
n
r
 
(
1
0
,
 
[
.
i
n
t
 
(
n
I
 
r
v
)
,
 
.
r
e
f
 
h
u
s
e
r
,
 
.
r
e
f
 
h
o
w
n
e
r
,
 
.
r
e
f
 
h
t
r
i
e
d
,
 
.
r
e
f
 
h
i
d
e
n
t
,
 
.
r
e
f
 
h
t
a
p
e
,
 
.
i
n
t
 
g
i
v
e
n
,
 
.
r
e
f
 
h
s
e
c
r
e
t
,
 
.
r
e
f
 
q
e
n
t
,
 
.
r
e
f
 
h
n
o
e
,
 
.
i
n
t
 
p
e
r
m
,
 
.
i
n
t
 
p
l
a
i
n
]
)
)
,
 
(
h
s
e
c
r
e
t
,
 
.
i
n
r
 
(
6
,
 
[
.
r
e
f
 
a
s
e
c
r
e
t
,
 
.
i
n
t
 
X
s
e
c
r
e
t
.
1
]
)
)
,
 
(
q
e
n
t
,
 
.
i
n
l
 
(
E
.
2
.
2
.
1
,
 
2
,
 
.
i
n
r
 
(
.
i
n
r
 
(
.
i
n
r
 
(
.
i
n
r
 
(
g
E
n
t
 
[
h
e
0
,
 
h
e
1
]
)
)
)
)
)
)
,
 
(
h
e
0
,
 
.
i
n
r
 
(
6
,
 
[
.
r
e
f
 
a
e
0
,
 
.
i
n
t
 
X
e
0
.
1
]
)
)
,
 
(
a
e
0
,
 
.
i
n
l
 
(
E
.
2
.
1
,
 
4
8
,
 
.
i
n
l
 
X
e
0
.
2
)
)
,
 
(
h
e
1
,
 
.
i
n
r
 
(
6
,
 
[
.
r
e
f
 
a
e
1
,
 
.
i
n
t
 
X
e
1
.
1
]
)
)
,
 
(
a
e
1
,
 
.
i
n
l
 
(
E
.
2
.
1
,
 
4
8
,
 
.
i
n
l
 
X
e
1
.
2
)
)
,
 
(
h
n
o
e
,
 
.
i
n
r
 
(
6
,
 
[
.
r
e
f
 
a
n
o
e
,
 
.
i
n
t
 
X
n
o
e
.
1
]
)
)
,
 
(
a
n
o
e
,
 
.
i
n
l
 
(
E
.
2
.
1
,
 
0
,
 
.
i
n
l
 
X
n
o
e
.
2
)
)
,
 
(
h
c
o
l
,
 
.
i
n
r
 
(
6
,
 
[
.
r
e
f
 
a
c
o
l
,
 
.
i
n
t
 
X
c
o
l
.
1
]
)
)
]
)
 
[
0
,
 
1
,
 
2
,
 
3
,
 
4
,
 
5
,
 
6
,
 
7
,
 
8
,
 
9
,
 
1
0
]
 
(
b
y
 
d
e
c
i
d
e
)
 
r
f
l


 
 
 
 
e
x
a
c
t
 
W
.
i
r
e
t
 
(
v
 
:
=
 
1
)
 
h
x
 
h
b
 
h
r
 
(
f
u
n
 
t
 
h
t
 
h
W
 
=
>
 
⟨
⟨
1
,
 
(
X
s
e
c
r
e
t
,
 
X
e
0
,
 
X
e
1
,
 
X
n
o
e
,
 
X
c
o
l
)
,
 
r
f
l
,
 
⟨
c
o
n
g
r
A
r
g
 
P
r
o
d
.
f
s
t
 
h
p
o
s
t
,
 
c
o
n
g
r
A
r
g
 
P
r
o
d
.
s
n
d
 
h
p
o
s
t
⟩
,
 
b
y
 
r
w
 
[
h
t
]
;
 
e
x
a
c
t
 
h
P
9
,
 
h
D
9
⟩
,
 
h
S
_
2
5
.
F
 
h
t
⟩
)
 
h
S
_
2
5
.
2
.
2
 
d
L
_
a
l
t
e
r
_
1
3


 
 
·
 
h
a
v
e
 
e
_
3
0
 
:
 
t
_
2
3
 
=
 
(
(
0
,
 
u
_
2
1
)
 
:
 
N
a
t
 
×
 
(
g
R
o
w
 
×
 
g
R
o
w
 
×
 
g
R
o
w
 
×
 
g
R
o
w
 
×
 
g
R
o
w
)
)
 
:
=
 
h
t
_
2
3
.
t
r
a
n
s
 
h
u
_
2
1
.
s
y
m
m


 
 
 
 
h
a
v
e
 
c
_
2
9
 
:
 
t
_
2
3
.
1
 
=
 
0
 
:
=
 
b
y
 
r
w
 
[
e
_
3
0
]


 
 
 
 
o
b
t
a
i
n
 
r
f
l
 
:
 
u
_
2
1
 
=
 
t
_
2
3
.
2
 
:
=
 
(
c
o
n
g
r
A
r
g
 
(
f
u
n
 
z
 
:
 
N
a
t
 
×
 
(
g
R
o
w
 
×
 
g
R
o
w
 
×
 
g
R
o
w
 
×
 
g
R
o
w
 
×
 
g
R
o
w
)
 
=
>
 
z
.
2
)
 
e
_
3
0
)
.
s
y
m
m


 
 
 
 
r
e
p
l
a
c
e
 
h
P
_
2
2
 
:
 
v
a
_
P
 
E
.
1
 
v
w
C
l
 
[
(
h
,
 
.
i
n
r
 
(
1
1
,
 
[
.
r
e
f
 
h
l
k
,
 
.
r
e
f
 
h
v
,
 
.
r
e
f
 
h
t
,
 
.
r
e
f
 
h
c
o
l
,
 
.
r
e
f
 
h
a
n
s
,
 
.
i
n
t
 
c
f
o
r
,
 
.
i
n
t
 
c
b
a
c
k
,
 
.
i
n
t
 
f
i
l
t
]
)
)
,
 
(
h
v
,
 
.
i
n
r
 
(
1
0
,
 
[
.
i
n
t
 
(
n
I
 
r
v
)
,
 
.
r
e
f
 
h
u
s
e
r
,
 
.
r
e
f
 
h
o
w
n
e
r
,
 
.
r
e
f
 
h
t
r
i
e
d
,
 
.
r
e
f
 
h
i
d
e
n
t
,
 
.
r
e
f
 
h
t
a
p
e
,
 
.
i
n
t
 
g
i
v
e
n
,
 
.
r
e
f
 
h
s
e
c
r
e
t
,
 
.
r
e
f
 
q
e
n
t
,
 
.
r
e
f
 
h
n
o
e
,
 
.
i
n
t
 
p
e
r
m
,
 
.
i
n
t
 
p
l
a
i
n
]
)
)
,
 
(
h
s
e
c
r
e
t
,
 
.
i
n
r
 
(
6
,
 
[
.
r
e
f
 
a
s
e
c
r
e
t
,
 
.
i
n
t
 
t
_
2
3
.
2
.
1
.
1
]
)
)
,
 
(
q
e
n
t
,
 
.
i
n
l
 
(
E
.
2
.
2
.
1
,
 
2
,
 
.
i
n
r
 
(
.
i
n
r
 
(
.
i
n
r
 
(
.
i
n
r
 
(
g
E
n
t
 
[
h
e
0
,
 
h
e
1
]
)
)
)
)
)
)
,
 
(
h
e
0
,
 
.
i
n
r
 
(
6
,
 
[
.
r
e
f
 
a
e
0
,
 
.
i
n
t
 
t
_
2
3
.
2
.
2
.
1
.
1
]
)
)
,
 
(
a
e
0
,
 
.
i
n
l
 
(
E
.
2
.
1
,
 
4
8
,
 
.
i
n
l
 
t
_
2
3
.
2
.
2
.
1
.
2
)
)
,
 
(
h
e
1
,
 
.
i
n
r
 
(
6
,
 
[
.
r
e
f
 
a
e
1
,
 
.
i
n
t
 
t
_
2
3
.
2
.
2
.
2
.
1
.
1
]
)
)
,
 
(
a
e
1
,
 
.
i
n
l
 
(
E
.
2
.
1
,
 
4
8
,
 
.
i
n
l
 
t
_
2
3
.
2
.
2
.
2
.
1
.
2
)
)
,
 
(
h
n
o
e
,
 
.
i
n
r
 
(
6
,
 
[
.
r
e
f
 
a
n
o
e
,
 
.
i
n
t
 
t
_
2
3
.
2
.
2
.
2
.
2
.
1
.
1
]
)
)
,
 
(
a
n
o
e
,
 
.
i
n
l
 
(
E
.
2
.
1
,
 
0
,
 
.
i
n
l
 
t
_
2
3
.
2
.
2
.
2
.
2
.
1
.
2
)
)
,
 
(
h
c
o
l
,
 
.
i
n
r
 
(
6
,
 
[
.
r
e
f
 
a
c
o
l
,
 
.
i
n
t
 
t
_
2
3
.
2
.
2
.
2
.
2
.
2
.
1
]
)
)
]
 
H
_
2
2
 
:
=
 
h
P
_
2
2


 
 
 
 
r
e
p
l
a
c
e
 
h
D
_
2
2
 
:
 
v
a
_
D
 
A
 
[
(
h
,
 
.
i
n
r
 
(
1
1
,
 
[
.
r
e
f
 
h
l
k
,
 
.
r
e
f
 
h
v
,
 
.
r
e
f
 
h
t
,
 
.
r
e
f
 
h
c
o
l
,
 
.
r
e
f
 
h
a
n
s
,
 
.
i
n
t
 
c
f
o
r
,
 
.
i
n
t
 
c
b
a
c
k
,
 
.
i
n
t
 
f
i
l
t
]
)
)
,
 
(
h
v
,
 
.
i
n
r
 
(
1
0
,
 
[
.
i
n
t
 
(
n
I
 
r
v
)
,
 
.
r
e
f
 
h
u
s
e
r
,
 
.
r
e
f
 
h
o
w
n
e
r
,
 
.
r
e
f
 
h
t
r
i
e
d
,
 
.
r
e
f
 
h
i
d
e
n
t
,
 
.
r
e
f
 
h
t
a
p
e
,
 
.
i
n
t
 
g
i
v
e
n
,
 
.
r
e
f
 
h
s
e
c
r
e
t
,
 
.
r
e
f
 
q
e
n
t
,
 
.
r
e
f
 
h
n
o
e
,
 
.
i
n
t
 
p
e
r
m
,
 
.
i
n
t
 
p
l
a
i
n
]
)
)
,
 
(
h
s
e
c
r
e
t
,
 
.
i
n
r
 
(
6
,
 
[
.
r
e
f
 
a
s
e
c
r
e
t
,
 
.
i
n
t
 
t
_
2
3
.
2
.
1
.
1
]
)
)
,
 
(
q
e
n
t
,
 
.
i
n
l
 
(
E
.
2
.
2
.
1
,
 
2
,
 
.
i
n
r
 
(
.
i
n
r
 
(
.
i
n
r
 
(
.
i
n
r
 
(
g
E
n
t
 
[
h
e
0
,
 
h
e
1
]
)
)
)
)
)
)
,
 
(
h
e
0
,
 
.
i
n
r
 
(
6
,
 
[
.
r
e
f
 
a
e
0
,
 
.
i
n
t
 
t
_
2
3
.
2
.
2
.
1
.
1
]
)
)
,
 
(
a
e
0
,
 
.
i
n
l
 
(
E
.
2
.
1
,
 
4
8
,
 
.
i
n
l
 
t
_
2
3
.
2
.
2
.
1
.
2
)
)
,
 
(
h
e
1
,
 
.
i
n
r
 
(
6
,
 
[
.
r
e
f
 
a
e
1
,
 
.
i
n
t
 
t
_
2
3
.
2
.
2
.
2
.
1
.
1
]
)
)
,
 
(
a
e
1
,
 
.
i
n
l
 
(
E
.
2
.
1
,
 
4
8
,
 
.
i
n
l
 
t
_
2
3
.
2
.
2
.
2
.
1
.
2
)
)
,
 
(
h
n
o
e
,
 
.
i
n
r
 
(
6
,
 
[
.
r
e
f
 
a
n
o
e
,
 
.
i
n
t
 
t
_
2
3
.
2
.
2
.
2
.
2
.
1
.
1
]
)
)
,
 
(
a
n
o
e
,
 
.
i
n
l
 
(
E
.
2
.
1
,
 
0
,
 
.
i
n
l
 
t
_
2
3
.
2
.
2
.
2
.
2
.
1
.
2
)
)
,
 
(
h
c
o
l
,
 
.
i
n
r
 
(
6
,
 
[
.
r
e
f
 
a
c
o
l
,
 
.
i
n
t
 
t
_
2
3
.
2
.
2
.
2
.
2
.
2
.
1
]
)
)
]
 
:
=
 
h
D
_
2
2


 
 
 
 
c
l
e
a
r
 
h
P
 
h
D
 
h
S


 
 
 
 
r
e
f
i
n
e
 
l
v
_
g
o
t
o
 
(
t
g
t
 
:
=
 
1
4
)
 
h
x
 
h
b
 
d
L
_
a
l
t
e
r
_
7
 
(
b
y
 
d
e
c
i
d
e
)
 
?
_


 
 
 
 
r
e
f
i
n
e
 
l
v
_
i
c
o
n
s
t
 
(
v
 
:
=
 
0
)
 
h
x
 
h
b
 
d
L
_
a
l
t
e
r
_
1
4
 
(
b
y
 
d
e
c
i
d
e
)
 
?
_


 
 
 
 
r
e
f
i
n
e
 
v
x
_
r
e
t
 
?
_


 
 
 
 
h
a
v
e
 
h
p
o
s
t
 
:
 
(
(
0
,
 
(
(
t
_
2
3
.
2
.
1
.
1
,
 
X
s
e
c
r
e
t
.
2
)
,
 
t
_
2
3
.
2
.
2
.
1
,
 
t
_
2
3
.
2
.
2
.
2
.
1
,
 
t
_
2
3
.
2
.
2
.
2
.
2
.
1
,
 
(
t
_
2
3
.
2
.
2
.
2
.
2
.
2
.
1
,
 
X
c
o
l
.
2
)
)
)
 
:
 
I
n
t
3
2
 
×
 
(
g
R
o
w
 
×
 
g
R
o
w
 
×
 
g
R
o
w
 
×
 
g
R
o
w
 
×
 
g
R
o
w
)
)
 
=
 
F
_
L
_
a
l
t
e
r
_
e
 
X
s
e
c
r
e
t
 
X
e
0
 
X
e
1
 
X
n
o
e
 
X
c
o
l
 
w
h
i
c
h
 
v
i
 
v
b
 
:
=
 
(
s
h
o
w
 
F
_
L
_
a
l
t
e
r
_
e
 
X
s
e
c
r
e
t
 
X
e
0
 
X
e
1
 
X
n
o
e
 
X
c
o
l
 
w
h
i
c
h
 
v
i
 
v
b
 
=
 
(
(
0
,
 
(
(
t
_
2
3
.
2
.
1
.
1
,
 
X
s
e
c
r
e
t
.
2
)
,
 
t
_
2
3
.
2
.
2
.
1
,
 
t
_
2
3
.
2
.
2
.
2
.
1
,
 
t
_
2
3
.
2
.
2
.
2
.
2
.
1
,
 
(
t
_
2
3
.
2
.
2
.
2
.
2
.
2
.
1
,
 
X
c
o
l
.
2
)
)
)
 
:
 
I
n
t
3
2
 
×
 
(
g
R
o
w
 
×
 
g
R
o
w
 
×
 
g
R
o
w
 
×
 
g
R
o
w
 
×
 
g
R
o
w
)
)
 
f
r
o
m
 
(
g
L
e
t
_
e
q
 
h
t
_
2
3
 
(
(
i
f
_
p
o
s
 
c
_
2
9
)
.
t
r
a
n
s
 
r
f
l
)
)
)
.
s
y
m
m


 
 
 
 
h
a
v
e
 
h
P
9
 
:
=
 
h
P
_
2
2
.
s
u
b
 
(
w
s
'
 
:
=
 
[
(
h
,
 
.
i
n
r
 
(
1
1
,
 
[
.
r
e
f
 
h
l
k
,
 
.
r
e
f
 
h
v
,
 
.
r
e
f
 
h
t
,
 
.
r
e
f
 
h
c
o
l
,
 
.
r
e
f
 
h
a
n
s
,
 
.
i
n
t
 
c
f
o
r
,
 
.
i
n
t
 
c
b
a
c
k
,
 
.
i
n
t
 
f
i
l
t
]
)
)
,
 
(
h
v
,
 
.
i
n
r
 
(
1
0
,
 
[
.
i
n
t
 
(
n
I
 
r
v
)
,
 
.
r
e
f
 
h
u
s
e
r
,
 
.
r
e
f
 
h
o
w
n
e
r
,
 
.
r
e
f
 
h
t
r
i
e
d
,
 
.
r
e
f
 
h
i
d
e
n
t
,
 
.
r
e
f
 
h
t
a
p
e
,
 
.
i
n
t
 
g
i
v
e
n
,
 
.
r
e
f
 
h
s
e
c
r
e
t
,
 
.
r
e
f
 
q
e
n
t
,
 
.
r
e
f
 
h
n
o
e
,
 
.
i
n
t
 
p
e
r
m
,
 
.
i
n
t
 
p
l
a
i
n
]
)
)
,
 
(
h
s
e
c
r
e
t
,
 
.
i
n
r
 
(
6
,
 
[
.
r
e
f
 
a
s
e
c
r
e
t
,
 
.
i
n
t
 
t
_
2
3
.
2
.
1
.
1
]
)
)
,
 
(
q
e
n
t
,
 
.
i
n
l
 
(
E
.
2
.
2
.
1
,
 
2
,
 
.
i
n
r
 
(
.
i
n
r
 
(
.
i
n
r
 
(
.
i
n
r
 
(
g
E
n
t
 
[
h
e
0
,
 
h
e
1
]
)
)
)
)
)
)
,
 
(
h
e
0
,
 
.
i
n
r
 
(
6
,
 
[
.
r
e
f
 
a
e
0
,
 
.
i
n
t
 
t
_
2
3
.
2
.
2
.
1
.
1
]
)
)
,
 
(
a
e
0
,
 
.
i
n
l
 
(
E
.
2
.
1
,
 
4
8
,
 
.
i
n
l
 
t
_
2
3
.
2
.
2
.
1
.
2
)
)
,
 
(
h
e
1
,
 
.
i
n
r
 
(
6
,
 
[
.
r
e
f
 
a
e
1
,
 
.
i
n
t
 
t
_
2
3
.
2
.
2
.
2
.
1
.
1
]
)
)
,
 
(
a
e
1
,
 
.
i
n
l
 
(
E
.
2
.
1
,
 
4
8
,
 
.
i
n
l
 
t
_
2
3
.
2
.
2
.
2
.
1
.
2
)
)
,
 
(
h
n
o
e
,
 
.
i
n
r
 
(
6
,
 
[
.
r
e
f
 
a
n
o
e
,
 
.
i
n
t
 
t
_
2
3
.
2
.
2
.
2
.
2
.
1
.
1
]
)
)
,
 
(
a
n
o
e
,
 
.
i
n
l
 
(
E
.
2
.
1
,
 
0
,
 
.
i
n
l
 
t
_
2
3
.
2
.
2
.
2
.
2
.
1
.
2
)
)
,
 
(
h
c
o
l
,
 
.
i
n
r
 
(
6
,
 
[
.
r
e
f
 
a
c
o
l
,
 
.
i
n
t
 
t
_
2
3
.
2
.
2
.
2
.
2
.
2
.
1
]
)
)
]
)
 
[
0
,
 
1
,
 
2
,
 
3
,
 
4
,
 
5
,
 
6
,
 
7
,
 
8
,
 
9
,
 
1
0
]
 
r
f
l


 
 
 
 
h
a
v
e
 
h
D
9
 
:
=
 
h
D
_
2
2
.
s
u
b
 
(
w
s
'
 
:
=
 
[
(
h
,
 
.
i
n
r
 
(
1
1
,
 
[
.
r
e
f
 
h
l
k
,
 
.
r
e
f
 
h
v
,
 
.
r
e
f
 
h
t
,
 
.
r
e
f
 
h
c
o
l
,
 
.
r
e
f
 
h
a
n
s
,
 
.
i
n
t
 
c
f
o
r
,
 
.
i
n
t
 
c
b
a
c
k
,
 
.
i
n
t
 
f
i
l
t
]
)
)
,
 
(
h
v
,
 
.
i
n
r
 
(
1
0
,
 
[
.
i
n
t
 
(
n
I
 
r
v
)
,
 
.
r
e
f
 
h
u
s
e
r
,
 
.
r
e
f
 
h
o
w
n
e
r
,
 
.
r
e
f
 
h
t
r
i
e
d
,
 
.
r
e
f
 
h
i
d
e
n
t
,
 
.
r
e
f
 
h
t
a
p
e
,
 
.
i
n
t
 
g
i
v
e
n
,
 
.
r
e
f
 
h
s
e
c
r
e
t
,
 
.
r
e
f
 
q
e
n
t
,
 
.
r
e
f
 
h
n
o
e
,
 
.
i
n
t
 
p
e
r
m
,
 
.
i
n
t
 
p
l
a
i
n
]
)
)
,
 
(
h
s
e
c
r
e
t
,
 
.
i
n
r
 
(
6
,
 
[
.
r
e
f
 
a
s
e
c
r
e
t
,
 
.
i
n
t
 
t
_
2
3
.
2
.
1
.
1
]
)
)
,
 
(
q
e
n
t
,
 
.
i
n
l
 
(
E
.
2
.
2
.
1
,
 
2
,
 
.
i
n
r
 
(
.
i
n
r
 
(
.
i
n
r
 
(
.
i
n
r
 
(
g
E
n
t
 
[
h
e
0
,
 
h
e
1
]
)
)
)
)
)
)
,
 
(
h
e
0
,
 
.
i
n
r
 
(
6
,
 
[
.
r
e
f
 
a
e
0
,
 
.
i
n
t
 
t
_
2
3
.
2
.
2
.
1
.
1
]
)
)
,
 
(
a
e
0
,
 
.
i
n
l
 
(
E
.
2
.
1
,
 
4
8
,
 
.
i
n
l
 
t
_
2
3
.
2
.
2
.
1
.
2
)
)
,
 
(
h
e
1
,
 
.
i
n
r
 
(
6
,
 
[
.
r
e
f
 
a
e
1
,
 
.
i
n
t
 
t
_
2
3
.
2
.
2
.
2
.
1
.
1
]
)
)
,
 
(
a
e
1
,
 
.
i
n
l
 
(
E
.
2
.
1
,
 
4
8
,
 
.
i
n
l
 
t
_
2
3
.
2
.
2
.
2
.
1
.
2
)
)
,
 
(
h
n
o
e
,
 
.
i
n
r
 
(
6
,
 
[
.
r
e
f
 
a
n
o
e
,
 
.
i
n
t
 
t
_
2
3
.
2
.
2
.
2
.
2
.
1
.
1
]
)
)
,
 
(
a
n
o
e
,
 
.
i
n
l
 
(
E
.
2
.
1
,
 
0
,
 
.
i
n
l
 
t
_
2
3
.
2
.
2
.
2
.
2
.
1
.
2
)
)
,
 
(
h
c
o
l
,
 
.
i
n
r
 
(
6
,
 
[
.
r
e
f
 
a
c
o
l
,
 
.
i
n
t
 
t
_
2
3
.
2
.
2
.
2
.
2
.
2
.
1
]
)
)
]
)
 
[
0
,
 
1
,
 
2
,
 
3
,
 
4
,
 
5
,
 
6
,
 
7
,
 
8
,
 
9
,
 
1
0
]
 
(
b
y
 
d
e
c
i
d
e
)
 
r
f
l


 
 
 
 
e
x
a
c
t
 
W
.
i
r
e
t
 
(
v
 
:
=
 
0
)
 
h
x
 
h
b
 
h
r
 
(
f
u
n
 
t
 
h
t
 
h
W
 
=
>
 
⟨
⟨
0
,
 
(
(
t
_
2
3
.
2
.
1
.
1
,
 
X
s
e
c
r
e
t
.
2
)
,
 
t
_
2
3
.
2
.
2
.
1
,
 
t
_
2
3
.
2
.
2
.
2
.
1
,
 
t
_
2
3
.
2
.
2
.
2
.
2
.
1
,
 
(
t
_
2
3
.
2
.
2
.
2
.
2
.
2
.
1
,
 
X
c
o
l
.
2
)
)
,
 
r
f
l
,
 
⟨
c
o
n
g
r
A
r
g
 
P
r
o
d
.
f
s
t
 
h
p
o
s
t
,
 
c
o
n
g
r
A
r
g
 
P
r
o
d
.
s
n
d
 
h
p
o
s
t
⟩
,
 
b
y
 
r
w
 
[
h
t
]
;
 
e
x
a
c
t
 
h
P
9
,
 
h
D
9
⟩
,
 
h
S
_
2
2
.
F
 
h
t
⟩
)
 
h
S
_
2
2
.
2
.
2
 
d
L
_
a
l
t
e
r
_
1
5


s
e
t
_
o
p
t
i
o
n
 
m
a
x
H
e
a
r
t
b
e
a
t
s
 
4
0
0
0
0
0
0
 
i
n


s
e
t
_
o
p
t
i
o
n
 
m
a
x
R
e
c
D
e
p
t
h
 
1
0
0
0
0
0
 
i
n


t
h
e
o
r
e
m
 
k
_
L
_
o
p
e
n
_
e
 
(
E
 
:
 
g
E
)
 
(
s
a
 
:
 
N
a
t
 
→
 
N
a
t
)
 
(
c
L
 
:
 
C
l
a
s
s
I
d
)
 
(
l
 
:
 
L
a
u
n
c
h
)
 
(
h
s
t
 
:
 
l
.
s
t
a
c
k
T
r
a
c
e
s
 
=
 
f
a
l
s
e
)
 
(
h
 
a
o
u
t
 
h
l
k
 
h
v
 
h
t
 
h
c
o
l
 
h
a
n
s
 
h
p
a
d
 
h
c
h
k
 
h
u
s
e
r
 
h
o
w
n
e
r
 
h
t
r
i
e
d
 
h
i
d
e
n
t
 
h
t
a
p
e
 
h
s
e
c
r
e
t
 
q
e
n
t
 
h
n
o
e
 
a
t
r
i
e
d
 
a
i
d
e
n
t
 
a
s
e
c
r
e
t
 
h
e
0
 
h
e
1
 
a
e
0
 
a
e
1
 
h
s
m
 
h
g
r
 
h
s
r
 
h
b
l
 
h
t
e
x
t
 
h
s
u
m
 
q
b
s
m
 
q
s
s
m
 
q
m
s
r
 
a
t
e
x
t
 
a
s
u
m
 
a
p
a
d
 
a
c
h
k
 
a
c
o
l
 
:
 
N
a
t
)
 
(
r
v
 
:
 
N
a
t
)
 
(
c
f
o
r
 
:
 
I
n
t
3
2
)
 
(
c
b
a
c
k
 
:
 
I
n
t
3
2
)
 
(
f
i
l
t
 
:
 
I
n
t
3
2
)
 
(
g
i
v
e
n
 
:
 
I
n
t
3
2
)
 
(
p
e
r
m
 
:
 
I
n
t
3
2
)
 
(
p
l
a
i
n
 
:
 
I
n
t
3
2
)
 
(
X
t
r
i
e
d
 
:
 
g
R
o
w
)
 
(
X
i
d
e
n
t
 
:
 
g
R
o
w
)
 
(
X
s
e
c
r
e
t
 
:
 
g
R
o
w
)
 
(
X
e
0
 
:
 
g
R
o
w
)
 
(
X
e
1
 
:
 
g
R
o
w
)
 
(
b
k
s
m
 
:
 
N
a
t
 
→
 
I
n
t
3
2
)
 
(
s
t
s
m
 
:
 
N
a
t
 
→
 
I
n
t
3
2
)
 
(
m
x
s
r
 
:
 
N
a
t
 
→
 
I
n
t
3
2
)
 
(
X
t
e
x
t
 
:
 
g
R
o
w
)
 
(
X
s
u
m
 
:
 
g
R
o
w
)
 
(
X
p
a
d
 
:
 
g
R
o
w
)
 
(
X
c
h
k
 
:
 
g
R
o
w
)
 
(
X
c
o
l
 
:
 
g
R
o
w
)
 
(
g
g
 
:
 
N
a
t
 
→
 
I
n
t
6
4
)
 
(
v
c
 
:
 
I
n
t
3
2
)
 
(
h
2
r
v
 
:
 
2
 
≤
 
r
v
 
∧
 
r
v
 
≤
 
4
)
 
:
 
g
H
i
 
E
 
s
a
 
c
L
 
l
 
y
L
_
o
p
e
n
 
w
s
L
_
o
p
e
n
 
(
{
 
f
r
a
m
e
s
 
:
=
 
7
,
 
c
e
l
l
s
 
:
=
 
1
,
 
s
l
o
t
s
 
:
=
 
6
,
 
l
o
c
a
l
s
 
:
=
 
1
6
1
 
}
)
 
1
 
6
 
[
.
r
e
f
 
h
,
 
.
i
n
t
 
v
c
,
 
.
r
e
f
 
a
o
u
t
]
 
[
(
h
,
 
.
i
n
r
 
(
1
1
,
 
[
.
r
e
f
 
h
l
k
,
 
.
r
e
f
 
h
v
,
 
.
r
e
f
 
h
t
,
 
.
r
e
f
 
h
c
o
l
,
 
.
r
e
f
 
h
a
n
s
,
 
.
i
n
t
 
c
f
o
r
,
 
.
i
n
t
 
c
b
a
c
k
,
 
.
i
n
t
 
f
i
l
t
]
)
)
,
 
(
h
l
k
,
 
.
i
n
r
 
(
3
,
 
[
.
r
e
f
 
h
v
,
 
.
r
e
f
 
h
t
,
 
.
r
e
f
 
h
p
a
d
,
 
.
r
e
f
 
h
c
h
k
]
)
)
,
 
(
h
v
,
 
.
i
n
r
 
(
1
0
,
 
[
.
i
n
t
 
(
n
I
 
r
v
)
,
 
.
r
e
f
 
h
u
s
e
r
,
 
.
r
e
f
 
h
o
w
n
e
r
,
 
.
r
e
f
 
h
t
r
i
e
d
,
 
.
r
e
f
 
h
i
d
e
n
t
,
 
.
r
e
f
 
h
t
a
p
e
,
 
.
i
n
t
 
g
i
v
e
n
,
 
.
r
e
f
 
h
s
e
c
r
e
t
,
 
.
r
e
f
 
q
e
n
t
,
 
.
r
e
f
 
h
n
o
e
,
 
.
i
n
t
 
p
e
r
m
,
 
.
i
n
t
 
p
l
a
i
n
]
)
)
,
 
(
h
t
r
i
e
d
,
 
.
i
n
r
 
(
6
,
 
[
.
r
e
f
 
a
t
r
i
e
d
,
 
.
i
n
t
 
X
t
r
i
e
d
.
1
]
)
)
,
 
(
a
t
r
i
e
d
,
 
.
i
n
l
 
(
E
.
2
.
1
,
 
1
2
7
,
 
.
i
n
l
 
X
t
r
i
e
d
.
2
)
)
,
 
(
h
i
d
e
n
t
,
 
.
i
n
r
 
(
6
,
 
[
.
r
e
f
 
a
i
d
e
n
t
,
 
.
i
n
t
 
X
i
d
e
n
t
.
1
]
)
)
,
 
(
a
i
d
e
n
t
,
 
.
i
n
l
 
(
E
.
2
.
1
,
 
3
2
,
 
.
i
n
l
 
X
i
d
e
n
t
.
2
)
)
,
 
(
h
s
e
c
r
e
t
,
 
.
i
n
r
 
(
6
,
 
[
.
r
e
f
 
a
s
e
c
r
e
t
,
 
.
i
n
t
 
X
s
e
c
r
e
t
.
1
]
)
)
,
 
(
a
s
e
c
r
e
t
,
 
.
i
n
l
 
(
E
.
2
.
1
,
 
3
2
,
 
.
i
n
l
 
X
s
e
c
r
e
t
.
2
)
)
,
 
(
q
e
n
t
,
 
.
i
n
l
 
(
E
.
2
.
2
.
1
,
 
2
,
 
.
i
n
r
 
(
.
i
n
r
 
(
.
i
n
r
 
(
.
i
n
r
 
(
g
E
n
t
 
[
h
e
0
,
 
h
e
1
]
)
)
)
)
)
)
,
 
(
h
e
0
,
 
.
i
n
r
 
(
6
,
 
[
.
r
e
f
 
a
e
0
,
 
.
i
n
t
 
X
e
0
.
1
]
)
)
,
 
(
a
e
0
,
 
.
i
n
l
 
(
E
.
2
.
1
,
 
4
8
,
 
.
i
n
l
 
X
e
0
.
2
)
)
,
 
(
h
e
1
,
 
.
i
n
r
 
(
6
,
 
[
.
r
e
f
 
a
e
1
,
 
.
i
n
t
 
X
e
1
.
1
]
)
)
,
 
(
a
e
1
,
 
.
i
n
l
 
(
E
.
2
.
1
,
 
4
8
,
 
.
i
n
l
 
X
e
1
.
2
)
)
,
 
(
h
t
,
 
.
i
n
r
 
(
9
,
 
[
.
r
e
f
 
h
s
m
,
 
.
r
e
f
 
h
g
r
,
 
.
r
e
f
 
h
s
r
,
 
.
r
e
f
 
h
b
l
,
 
.
r
e
f
 
h
t
e
x
t
,
 
.
r
e
f
 
h
s
u
m
]
)
)
,
 
(
h
s
m
,
 
.
i
n
r
 
(
7
,
 
[
.
r
e
f
 
q
b
s
m
,
 
.
r
e
f
 
q
s
s
m
]
)
)
,
 
(
q
b
s
m
,
 
.
i
n
l
 
(
E
.
2
.
1
,
 
1
6
,
 
.
i
n
l
 
b
k
s
m
)
)
,
 
(
q
s
s
m
,
 
.
i
n
l
 
(
E
.
2
.
1
,
 
4
,
 
.
i
n
l
 
s
t
s
m
)
)
,
 
(
h
s
r
,
 
.
i
n
r
 
(
8
,
 
[
.
r
e
f
 
q
m
s
r
]
)
)
,
 
(
q
m
s
r
,
 
.
i
n
l
 
(
E
.
2
.
1
,
 
2
5
6
,
 
.
i
n
l
 
m
x
s
r
)
)
,
 
(
h
t
e
x
t
,
 
.
i
n
r
 
(
6
,
 
[
.
r
e
f
 
a
t
e
x
t
,
 
.
i
n
t
 
X
t
e
x
t
.
1
]
)
)
,
 
(
a
t
e
x
t
,
 
.
i
n
l
 
(
E
.
2
.
1
,
 
4
3
2
,
 
.
i
n
l
 
X
t
e
x
t
.
2
)
)
,
 
(
h
s
u
m
,
 
.
i
n
r
 
(
6
,
 
[
.
r
e
f
 
a
s
u
m
,
 
.
i
n
t
 
X
s
u
m
.
1
]
)
)
,
 
(
a
s
u
m
,
 
.
i
n
l
 
(
E
.
2
.
1
,
 
3
2
,
 
.
i
n
l
 
X
s
u
m
.
2
)
)
,
 
(
h
p
a
d
,
 
.
i
n
r
 
(
6
,
 
[
.
r
e
f
 
a
p
a
d
,
 
.
i
n
t
 
X
p
a
d
.
1
]
)
)
,
 
(
a
p
a
d
,
 
.
i
n
l
 
(
E
.
2
.
1
,
 
3
2
,
 
.
i
n
l
 
X
p
a
d
.
2
)
)
,
 
(
h
c
h
k
,
 
.
i
n
r
 
(
6
,
 
[
.
r
e
f
 
a
c
h
k
,
 
.
i
n
t
 
X
c
h
k
.
1
]
)
)
,
 
(
a
c
h
k
,
 
.
i
n
l
 
(
E
.
2
.
1
,
 
3
2
,
 
.
i
n
l
 
X
c
h
k
.
2
)
)
,
 
(
h
c
o
l
,
 
.
i
n
r
 
(
6
,
 
[
.
r
e
f
 
a
c
o
l
,
 
.
i
n
t
 
X
c
o
l
.
1
]
)
)
,
 
(
a
o
u
t
,
 
.
i
n
l
 
(
c
L
,
 
1
,
 
.
i
n
r
 
(
.
i
n
l
 
g
g
)
)
)
]
 
(
f
u
n
 
(
r
r
 
:
 
I
n
t
3
2
)
 
(
u
u
 
:
 
g
R
o
w
 
×
 
g
R
o
w
 
×
 
(
N
a
t
 
→
 
I
n
t
3
2
)
 
×
 
(
N
a
t
 
→
 
I
n
t
3
2
)
 
×
 
(
N
a
t
 
→
 
I
n
t
3
2
)
 
×
 
g
R
o
w
 
×
 
g
R
o
w
 
×
 
g
R
o
w
 
×
 
g
R
o
w
 
×
 
g
R
o
w
 
×
 
(
N
a
t
 
→
 
I
n
t
6
4
)
)
 
=
>
 
r
r
 
=
 
(
F
_
L
_
o
p
e
n
_
e
 
r
v
 
p
e
r
m
 
p
l
a
i
n
 
X
t
r
i
e
d
 
X
i
d
e
n
t
 
X
s
e
c
r
e
t
 
X
e
0
 
X
e
1
 
b
k
s
m
 
s
t
s
m
 
m
x
s
r
 
X
t
e
x
t
 
X
s
u
m
 
X
p
a
d
 
X
c
h
k
 
X
c
o
l
 
g
g
 
v
c
)
.
1
 
∧
 
u
u
 
=
 
(
F
_
L
_
o
p
e
n
_
e
 
r
v
 
p
e
r
m
 
p
l
a
i
n
 
X
t
r
i
e
d
 
X
i
d
e
n
t
 
X
s
e
c
r
e
t
 
X
e
0
 
X
e
1
 
b
k
s
m
 
s
t
s
m
 
m
x
s
r
 
X
t
e
x
t
 
X
s
u
m
 
X
p
a
d
 
X
c
h
k
 
X
c
o
l
 
g
g
 
v
c
)
.
2
)
 
(
f
u
n
 
(
u
u
 
:
 
g
R
o
w
 
×
 
g
R
o
w
 
×
 
(
N
a
t
 
→
 
I
n
t
3
2
)
 
×
 
(
N
a
t
 
→
 
I
n
t
3
2
)
 
×
 
(
N
a
t
 
→
 
I
n
t
3
2
)
 
×
 
g
R
o
w
 
×
 
g
R
o
w
 
×
 
g
R
o
w
 
×
 
g
R
o
w
 
×
 
g
R
o
w
 
×
 
(
N
a
t
 
→
 
I
n
t
6
4
)
)
 
=
>
 
[
(
h
,
 
.
i
n
r
 
(
1
1
,
 
[
.
r
e
f
 
h
l
k
,
 
.
r
e
f
 
h
v
,
 
.
r
e
f
 
h
t
,
 
.
r
e
f
 
h
c
o
l
,
 
.
r
e
f
 
h
a
n
s
,
 
.
i
n
t
 
c
f
o
r
,
 
.
i
n
t
 
c
b
a
c
k
,
 
.
i
n
t
 
f
i
l
t
]
)
)
,
 
(
h
l
k
,
 
.
i
n
r
 
(
3
,
 
[
.
r
e
f
 
h
v
,
 
.
r
e
f
 
h
t
,
 
.
r
e
f
 
h
p
a
d
,
 
.
r
e
f
 
h
c
h
k
]
)
)
,
 
(
h
v
,
 
.
i
n
r
 
(
1
0
,
 
[
.
i
n
t
 
(
n
I
 
r
v
)
,
 
.
r
e
f
 
h
u
s
e
r
,
 
.
r
e
f
 
h
o
w
n
e
r
,
 
.
r
e
f
 
h
t
r
i
e
d
,
 
.
r
e
f
 
h
i
d
e
n
t
,
 
.
r
e
f
 
h
t
a
p
e
,
 
.
i
n
t
 
g
i
v
e
n
,
 
.
r
e
f
 
h
s
e
c
r
e
t
,
 
.
r
e
f
 
q
e
n
t
,
 
.
r
e
f
 
h
n
o
e
,
 
.
i
n
t
 
p
e
r
m
,
 
.
i
n
t
 
p
l
a
i
n
]
)
)
,
 
(
h
t
r
i
e
d
,
 
.
i
n
r
 
(
6
,
 
[
.
r
e
f
 
a
t
r
i
e
d
,
 
.
i
n
t
 
u
u
.
1
.
1
]
)
)
,
 
(
a
t
r
i
e
d
,
 
.
i
n
l
 
(
E
.
2
.
1
,
 
1
2
7
,
 
.
i
n
l
 
u
u
.
1
.
2
)
)
,
 
(
h
i
d
e
n
t
,
 
.
i
n
r
 
(
6
,
 
[
.
r
e
f
 
a
i
d
e
n
t
,
 
.
i
n
t
 
X
i
d
e
n
t
.
1
]
)
)
,
 
(
a
i
d
e
n
t
,
 
.
i
n
l
 
(
E
.
2
.
1
,
 
3
2
,
 
.
i
n
l
 
X
i
d
e
n
t
.
2
)
)
,
 
(
h
s
e
c
r
e
t
,
 
.
i
n
r
 
(
6
,
 
[
.
r
e
f
 
a
s
e
c
r
e
t
,
 
.
i
n
t
 
u
u
.
2
.
1
.
1
]
)
)
,
 
(
a
s
e
c
r
e
t
,
 
.
i
n
l
 
(
E
.
2
.
1
,
 
3
2
,
 
.
i
n
l
 
u
u
.
2
.
1
.
2
)
)
,
 
(
q
e
n
t
,
 
.
i
n
l
 
(
E
.
2
.
2
.
1
,
 
2
,
 
.
i
n
r
 
(
.
i
n
r
 
(
.
i
n
r
 
(
.
i
n
r
 
(
g
E
n
t
 
[
h
e
0
,
 
h
e
1
]
)
)
)
)
)
)
,
 
(
h
e
0
,
 
.
i
n
r
 
(
6
,
 
[
.
r
e
f
 
a
e
0
,
 
.
i
n
t
 
X
e
0
.
1
]
)
)
,
 
(
a
e
0
,
 
.
i
n
l
 
(
E
.
2
.
1
,
 
4
8
,
 
.
i
n
l
 
X
e
0
.
2
)
)
,
 
(
h
e
1
,
 
.
i
n
r
 
(
6
,
 
[
.
r
e
f
 
a
e
1
,
 
.
i
n
t
 
X
e
1
.
1
]
)
)
,
 
(
a
e
1
,
 
.
i
n
l
 
(
E
.
2
.
1
,
 
4
8
,
 
.
i
n
l
 
X
e
1
.
2
)
)
,
 
(
h
t
,
 
.
i
n
r
 
(
9
,
 
[
.
r
e
f
 
h
s
m
,
 
.
r
e
f
 
h
g
r
,
 
.
r
e
f
 
h
s
r
,
 
.
r
e
f
 
h
b
l
,
 
.
r
e
f
 
h
t
e
x
t
,
 
.
r
e
f
 
h
s
u
m
]
)
)
,
 
(
h
s
m
,
 
.
i
n
r
 
(
7
,
 
[
.
r
e
f
 
q
b
s
m
,
 
.
r
e
f
 
q
s
s
m
]
)
)
,
 
(
q
b
s
m
,
 
.
i
n
l
 
(
E
.
2
.
1
,
 
1
6
,
 
.
i
n
l
 
u
u
.
2
.
2
.
1
)
)
,
 
(
q
s
s
m
,
 
.
i
n
l
 
(
E
.
2
.
1
,
 
4
,
 
.
i
n
l
 
u
u
.
2
.
2
.
2
.
1
)
)
,
 
(
h
s
r
,
 
.
i
n
r
 
(
8
,
 
[
.
r
e
f
 
q
m
s
r
]
)
)
,
 
(
q
m
s
r
,
 
.
i
n
l
 
(
E
.
2
.
1
,
 
2
5
6
,
 
.
i
n
l
 
u
u
.
2
.
2
.
2
.
2
.
1
)
)
,
 
(
h
t
e
x
t
,
 
.
i
n
r
 
(
6
,
 
[
.
r
e
f
 
a
t
e
x
t
,
 
.
i
n
t
 
u
u
.
2
.
2
.
2
.
2
.
2
.
1
.
1
]
)
)
,
 
(
a
t
e
x
t
,
 
.
i
n
l
 
(
E
.
2
.
1
,
 
4
3
2
,
 
.
i
n
l
 
u
u
.
2
.
2
.
2
.
2
.
2
.
1
.
2
)
)
,
 
(
h
s
u
m
,
 
.
i
n
r
 
(
6
,
 
[
.
r
e
f
 
a
s
u
m
,
 
.
i
n
t
 
u
u
.
2
.
2
.
2
.
2
.
2
.
2
.
1
.
1
]
)
)
,
 
(
a
s
u
m
,
 
.
i
n
l
 
(
E
.
2
.
1
,
 
3
2
,
 
.
i
n
l
 
u
u
.
2
.
2
.
2
.
2
.
2
.
2
.
1
.
2
)
)
,
 
(
h
p
a
d
,
 
.
i
n
r
 
(
6
,
 
[
.
r
e
f
 
a
p
a
d
,
 
.
i
n
t
 
u
u
.
2
.
2
.
2
.
2
.
2
.
2
.
2
.
1
.
1
]
)
)
,
 
(
a
p
a
d
,
 
.
i
n
l
 
(
E
.
2
.
1
,
 
3
2
,
 
.
i
n
l
 
u
u
.
2
.
2
.
2
.
2
.
2
.
2
.
2
.
1
.
2
)
)
,
 
(
h
c
h
k
,
 
.
i
n
r
 
(
6
,
 
[
.
r
e
f
 
a
c
h
k
,
 
.
i
n
t
 
u
u
.
2
.
2
.
2
.
2
.
2
.
2
.
2
.
2
.
1
.
1
]
)
)
,
 
(
a
c
h
k
,
 
.
i
n
l
 
(
E
.
2
.
1
,
 
3
2
,
 
.
i
n
l
 
u
u
.
2
.
2
.
2
.
2
.
2
.
2
.
2
.
2
.
1
.
2
)
)
,
 
(
h
c
o
l
,
 
.
i
n
r
 
(
6
,
 
[
.
r
e
f
 
a
c
o
l
,
 
.
i
n
t
 
u
u
.
2
.
2
.
2
.
2
.
2
.
2
.
2
.
2
.
2
.
1
.
1
]
)
)
,
 
(
a
o
u
t
,
 
.
i
n
l
 
(
c
L
,
 
1
,
 
.
i
n
r
 
(
.
i
n
l
 
u
u
.
2
.
2
.
2
.
2
.
2
.
2
.
2
.
2
.
2
.
2
)
)
)
]
)
 
:
=
 
b
y


 
 
i
n
t
r
o
 
s
z


 
 
r
e
f
i
n
e
 
v
x
_
o
f
W
H
 
(
h
h
 
:
=
 
[
(
0
,
 
9
,
 
1
2
,
 
4
1
)
,
 
(
0
,
 
9
,
 
1
5
,
 
2
6
)
,
 
(
0
,
 
9
,
 
1
8
,
 
1
3
)
]
)
 
(
c
c
 
:
=
 
c
L
_
o
p
e
n
)
 
(
m
a
x
L
 
:
=
 
4
)
 
(
r
e
t
 
:
=
 
(
s
o
m
e
 
.
i
n
t
)
)
 
(
b
y
 
d
e
c
i
d
e
)
 
r
f
l
 
?
_


 
 
i
n
t
r
o
 
p
 
e
 
s
 
m
 
a
r
g
s
 
b
e
l
o
w
 
m
e
t
h
 
c
 
s
₁
 
B
 
h
m
l
 
h
v


 
 
o
b
t
a
i
n
 
⟨
r
f
l
,
 
h
s
z
,
 
h
P
,
 
⟨
h
V
,
 
h
X
,
 
h
L
⟩
,
 
h
D
0
⟩
 
:
=
 
h
v


 
 
h
a
v
e
 
h
x
 
:
=
 
B
.
e
x
e
c


 
 
h
a
v
e
 
h
b
 
:
=
 
B
.
b
y
t
e
s


 
 
h
a
v
e
 
h
r
 
:
=
 
B
.
r
e
t
u
r
n
s


 
 
h
a
v
e
 
h
t
s
 
:
=
 
a
t
o
m
s
_
s
p
e
c
 
(
w
s
 
:
=
 
w
s
L
_
o
p
e
n
)
 
B
.
p
r
e


 
 
h
a
v
e
 
h
o
w
n
 
:
 
s
.
v
m
.
f
i
n
d
C
l
a
s
s
 
R
L
 
=
 
s
o
m
e
 
m
.
c
l
s
 
:
=
 
f
i
n
d
C
l
a
s
s
_
o
f
_
m
e
t
h
o
d
N
a
m
e
d
 
B
.
n
a
m
e
d


 
 
h
a
v
e
 
h
l
o
c
k
s
 
:
=
 
B
.
n
o
t
S
y
n
c
h
r
o
n
i
z
e
d


 
 
h
a
v
e
 
h
t
a
b
 
:
=
 
v
x
_
t
a
b
l
e
 
B
 
(
h
t
s
 
(
.
c
o
d
e
W
i
t
h
 
y
L
_
o
p
e
n
 
c
L
_
o
p
e
n
 
4
 
(
s
o
m
e
 
.
i
n
t
)
 
[
(
0
,
 
9
,
 
1
2
,
 
4
1
)
,
 
(
0
,
 
9
,
 
1
5
,
 
2
6
)
,
 
(
0
,
 
9
,
 
1
8
,
 
1
3
)
]
)
 
(
b
y
 
d
e
c
i
d
e
 
+
k
e
r
n
e
l
)
)


 
 
s
u
b
s
t
 
h
s
z


 
 
h
a
v
e
 
h
D
 
:
=
 
h
D
0
.
s
e
l
f
 
(
s
z
 
:
=
 
s
.
h
e
a
p
.
s
i
z
e
)


 
 
c
l
e
a
r
 
h
D
0


 
 
g
e
n
e
r
a
l
i
z
e
 
h
A
e
 
:
 
v
a
_
A
 
[
(
h
,
 
.
i
n
r
 
(
1
1
,
 
[
.
r
e
f
 
h
l
k
,
 
.
r
e
f
 
h
v
,
 
.
r
e
f
 
h
t
,
 
.
r
e
f
 
h
c
o
l
,
 
.
r
e
f
 
h
a
n
s
,
 
.
i
n
t
 
c
f
o
r
,
 
.
i
n
t
 
c
b
a
c
k
,
 
.
i
n
t
 
f
i
l
t
]
)
)
,
 
(
h
l
k
,
 
.
i
n
r
 
(
3
,
 
[
.
r
e
f
 
h
v
,
 
.
r
e
f
 
h
t
,
 
.
r
e
f
 
h
p
a
d
,
 
.
r
e
f
 
h
c
h
k
]
)
)
,
 
(
h
v
,
 
.
i
n
r
 
(
1
0
,
 
[
.
i
n
t
 
(
n
I
 
r
v
)
,
 
.
r
e
f
 
h
u
s
e
r
,
 
.
r
e
f
 
h
o
w
n
e
r
,
 
.
r
e
f
 
h
t
r
i
e
d
,
 
.
r
e
f
 
h
i
d
e
n
t
,
 
.
r
e
f
 
h
t
a
p
e
,
 
.
i
n
t
 
g
i
v
e
n
,
 
.
r
e
f
 
h
s
e
c
r
e
t
,
 
.
r
e
f
 
q
e
n
t
,
 
.
r
e
f
 
h
n
o
e
,
 
.
i
n
t
 
p
e
r
m
,
 
.
i
n
t
 
p
l
a
i
n
]
)
)
,
 
(
h
t
r
i
e
d
,
 
.
i
n
r
 
(
6
,
 
[
.
r
e
f
 
a
t
r
i
e
d
,
 
.
i
n
t
 
X
t
r
i
e
d
.
1
]
)
)
,
 
(
a
t
r
i
e
d
,
 
.
i
n
l
 
(
E
.
2
.
1
,
 
1
2
7
,
 
.
i
n
l
 
X
t
r
i
e
d
.
2
)
)
,
 
(
h
i
d
e
n
t
,
 
.
i
n
r
 
(
6
,
 
[
.
r
e
f
 
a
i
d
e
n
t
,
 
.
i
n
t
 
X
i
d
e
n
t
.
1
]
)
)
,
 
(
a
i
d
e
n
t
,
 
.
i
n
l
 
(
E
.
2
.
1
,
 
3
2
,
 
.
i
n
l
 
X
i
d
e
n
t
.
2
)
)
,
 
(
h
s
e
c
r
e
t
,
 
.
i
n
r
 
(
6
,
 
[
.
r
e
f
 
a
s
e
c
r
e
t
,
 
.
i
n
t
 
X
s
e
c
r
e
t
.
1
]
)
)
,
 
(
a
s
e
c
r
e
t
,
 
.
i
n
l
 
(
E
.
2
.
1
,
 
3
2
,
 
.
i
n
l
 
X
s
e
c
r
e
t
.
2
)
)
,
 
(
q
e
n
t
,
 
.
i
n
l
 
(
E
.
2
.
2
.
1
,
 
2
,
 
.
i
n
r
 
(
.
i
n
r
 
(
.
i
n
r
 
(
.
i
n
r
 
(
g
E
n
t
 
[
h
e
0
,
 
h
e
1
]
)
)
)
)
)
)
,
 
(
h
e
0
,
 
.
i
n
r
 
(
6
,
 
[
.
r
e
f
 
a
e
0
,
 
.
i
n
t
 
X
e
0
.
1
]
)
)
,
 
(
a
e
0
,
 
.
i
n
l
 
(
E
.
2
.
1
,
 
4
8
,
 
.
i
n
l
 
X
e
0
.
2
)
)
,
 
(
h
e
1
,
 
.
i
n
r
 
(
6
,
 
[
.
r
e
f
 
a
e
1
,
 
.
i
n
t
 
X
e
1
.
1
]
)
)
,
 
(
a
e
1
,
 
.
i
n
l
 
(
E
.
2
.
1
,
 
4
8
,
 
.
i
n
l
 
X
e
1
.
2
)
)
,
 
(
h
t
,
 
.
i
n
r
 
(
9
,
 
[
.
r
e
f
 
h
s
m
,
 
.
r
e
f
 
h
g
r
,
 
.
r
e
f
 
h
s
r
,
 
.
r
e
f
 
h
b
l
,
 
.
r
e
f
 
h
t
e
x
t
,
 
.
r
e
f
 
h
s
u
m
]
)
)
,
 
(
h
s
m
,
 
.
i
n
r
 
(
7
,
 
[
.
r
e
f
 
q
b
s
m
,
 
.
r
e
f
 
q
s
s
m
]
)
)
,
 
(
q
b
s
m
,
 
.
i
n
l
 
(
E
.
2
.
1
,
 
1
6
,
 
.
i
n
l
 
b
k
s
m
)
)
,
 
(
q
s
s
m
,
 
.
i
n
l
 
(
E
.
2
.
1
,
 
4
,
 
.
i
n
l
 
s
t
s
m
)
)
,
 
(
h
s
r
,
 
.
i
n
r
 
(
8
,
 
[
.
r
e
f
 
q
m
s
r
]
)
)
,
 
(
q
m
s
r
,
 
.
i
n
l
 
(
E
.
2
.
1
,
 
2
5
6
,
 
.
i
n
l
 
m
x
s
r
)
)
,
 
(
h
t
e
x
t
,
 
.
i
n
r
 
(
6
,
 
[
.
r
e
f
 
a
t
e
x
t
,
 
.
i
n
t
 
X
t
e
x
t
.
1
]
)
)
,
 
(
a
t
e
x
t
,
 
.
i
n
l
 
(
E
.
2
.
1
,
 
4
3
2
,
 
.
i
n
l
 
X
t
e
x
t
.
2
)
)
,
 
(
h
s
u
m
,
 
.
i
n
r
 
(
6
,
 
[
.
r
e
f
 
a
s
u
m
,
 
.
i
n
t
 
X
s
u
m
.
1
]
)
)
,
 
(
a
s
u
m
,
 
.
i
n
l
 
(
E
.
2
.
1
,
 
3
2
,
 
.
i
n
l
 
X
s
u
m
.
2
)
)
,
 
(
h
p
a
d
,
 
.
i
n
r
 
(
6
,
 
[
.
r
e
f
 
a
p
a
d
,
 
.
i
n
t
 
X
p
a
d
.
1
]
)
)
,
 
(
a
p
a
d
,
 
.
i
n
l
 
(
E
.
2
.
1
,
 
3
2
,
 
.
i
n
l
 
X
p
a
d
.
2
)
)
,
 
(
h
c
h
k
,
 
.
i
n
r
 
(
6
,
 
[
.
r
e
f
 
a
c
h
k
,
 
.
i
n
t
 
X
c
h
k
.
1
]
)
)
,
 
(
a
c
h
k
,
 
.
i
n
l
 
(
E
.
2
.
1
,
 
3
2
,
 
.
i
n
l
 
X
c
h
k
.
2
)
)
,
 
(
h
c
o
l
,
 
.
i
n
r
 
(
6
,
 
[
.
r
e
f
 
a
c
o
l
,
 
.
i
n
t
 
X
c
o
l
.
1
]
)
)
,
 
(
a
o
u
t
,
 
.
i
n
l
 
(
c
L
,
 
1
,
 
.
i
n
r
 
(
.
i
n
l
 
g
g
)
)
)
]
 
s
.
h
e
a
p
.
s
i
z
e
 
=
 
A
 
a
t
 
h
D
 
h
V
 
h
X
 
⊢


 
 
h
a
v
e
 
h
A
 
:
 
∀
 
q
 
:
 
N
a
t
,
 
s
.
h
e
a
p
.
s
i
z
e
 
≤
 
q
 
→
 
A
 
q
 
:
=
 
f
u
n
 
q
 
h
 
=
>
 
b
y
 
r
w
 
[
←
 
h
A
e
]
;
 
e
x
a
c
t
 
O
r
.
i
n
r
 
h


 
 
h
a
v
e
 
h
S
 
:
 
v
a
_
S
 
A
 
s
.
h
e
a
p
 
s
.
h
e
a
p
 
[
]
 
:
=
 
v
a
_
S
.
r
f


 
 
h
a
v
e
 
h
K
 
:
=
 
h
V
.
1


 
 
h
a
v
e
 
h
F
 
:
 
C
a
l
l
F
i
x
 
p
 
m
 
c
 
c
L
_
o
p
e
n
 
4
 
s
 
_
 
w
s
L
_
o
p
e
n
 
R
L
 
:
=
 
⟨
h
x
,
 
h
b
,
 
h
m
l
,
 
h
o
w
n
,
 
h
t
s
⟩


 
 
h
a
v
e
 
h
l
 
:
=
 
l
v
_
e
n
t
r
y
 
[
.
r
e
f
 
h
,
 
.
i
n
t
 
v
c
,
 
.
r
e
f
 
a
o
u
t
]
 
(
n
 
:
=
 
4
)
 
(
N
a
t
.
l
e
_
o
f
_
b
l
e
_
e
q
_
t
r
u
e
 
r
f
l
)


 
 
r
w
 
[
l
g
_
e
n
t
r
y
_
e
q
]


 
 
g
e
n
e
r
a
l
i
z
e
 
(
l
g
_
s
l
 
[
.
r
e
f
 
h
,
 
.
i
n
t
 
v
c
,
 
.
r
e
f
 
a
o
u
t
]
 
+
+
 
L
i
s
t
.
r
e
p
l
i
c
a
t
e
 
(
4
 
-
 
(
l
g
_
s
l
 
[
.
r
e
f
 
h
,
 
.
i
n
t
 
v
c
,
 
.
r
e
f
 
a
o
u
t
]
)
.
l
e
n
g
t
h
)
 
S
l
o
t
.
u
n
s
e
t
)
.
t
o
A
r
r
a
y
 
=
 
l
s
 
a
t
 
h
l
 
⊢


 
 
h
a
v
e
 
h
l
 
:
 
l
v
_
h
a
s
 
l
s
 
4
 
[
(
0
,
 
.
r
e
f
 
h
)
,
 
(
1
,
 
.
i
n
t
 
v
c
)
,
 
(
2
,
 
.
r
e
f
 
a
o
u
t
)
]
 
:
=
 
h
l


 
 
h
a
v
e
 
w
_
0
 
:
=
 
h
t
s
 
(
.
c
l
a
s
s
L
i
n
k
 
R
L
 
4
1
 
"
j
a
v
a
/
l
a
n
g
/
I
l
l
e
g
a
l
A
r
g
u
m
e
n
t
E
x
c
e
p
t
i
o
n
"
)
 
(
b
y
 
d
e
c
i
d
e
 
+
k
e
r
n
e
l
)


 
 
h
a
v
e
 
w
_
1
 
:
=
 
h
t
s
 
(
.
c
l
a
s
s
L
i
n
k
 
R
L
 
2
6
 
"
j
a
v
a
/
l
a
n
g
/
I
l
l
e
g
a
l
S
t
a
t
e
E
x
c
e
p
t
i
o
n
"
)
 
(
b
y
 
d
e
c
i
d
e
 
+
k
e
r
n
e
l
)


 
 
h
a
v
e
 
w
_
2
 
:
=
 
h
t
s
 
(
.
c
l
a
s
s
L
i
n
k
 
R
L
 
1
3
 
"
j
a
v
a
/
l
a
n
g
/
U
n
s
u
p
p
o
r
t
e
d
O
p
e
r
a
t
i
o
n
E
x
c
e
p
t
i
o
n
"
)
 
(
b
y
 
d
e
c
i
d
e
 
+
k
e
r
n
e
l
)


 
 
r
e
f
i
n
e
 
l
v
_
a
l
o
a
d
_
n
 
h
x
 
h
b
 
d
L
_
o
p
e
n
_
0
 
r
f
l
 
(
l
v
_
a
t
 
h
l
 
2
 
r
f
l
)
 
?
_


 
 
r
e
f
i
n
e
 
l
v
_
i
c
o
n
s
t
 
(
v
 
:
=
 
0
)
 
h
x
 
h
b
 
d
L
_
o
p
e
n
_
1
 
(
b
y
 
d
e
c
i
d
e
)
 
?
_


 
 
r
e
f
i
n
e
 
l
v
_
a
l
o
a
d
_
n
 
h
x
 
h
b
 
d
L
_
o
p
e
n
_
2
 
r
f
l
 
(
l
v
_
a
t
 
h
l
 
0
 
r
f
l
)
 
?
_


 
 
r
e
f
i
n
e
 
l
v
_
i
l
o
a
d
_
n
 
h
x
 
h
b
 
d
L
_
o
p
e
n
_
3
 
r
f
l
 
(
l
v
_
a
t
 
h
l
 
1
 
r
f
l
)
 
?
_


 
 
o
b
t
a
i
n
 
⟨
t
_
3
3
,
 
h
t
_
3
3
⟩
 
:
 
∃
 
t
9
 
:
 
N
a
t
 
×
 
(
I
n
t
3
2
 
×
 
(
g
R
o
w
 
×
 
g
R
o
w
 
×
 
(
N
a
t
 
→
 
I
n
t
3
2
)
 
×
 
(
N
a
t
 
→
 
I
n
t
3
2
)
 
×
 
(
N
a
t
 
→
 
I
n
t
3
2
)
 
×
 
g
R
o
w
 
×
 
g
R
o
w
 
×
 
g
R
o
w
 
×
 
g
R
o
w
 
×
 
g
R
o
w
)
)
,
 
t
9
 
=
 
F
_
X
1
0
_
o
p
e
n
_
e
 
r
v
 
p
e
r
m
 
p
l
a
i
n
 
X
t
r
i
e
d
 
X
i
d
e
n
t
 
X
s
e
c
r
e
t
 
X
e
0
 
X
e
1
 
b
k
s
m
 
s
t
s
m
 
m
x
s
r
 
X
t
e
x
t
 
X
s
u
m
 
X
p
a
d
 
X
c
h
k
 
X
c
o
l
 
v
c
 
:
=
 
⟨
_
,
 
r
f
l
⟩


 
 
r
e
f
i
n
e
 
g
T
V
i
 
h
F
 
h
l
 
h
V
 
h
X
 
h
P
 
h
D
 
h
S
 
h
A
 
[
0
,
 
1
,
 
2
,
 
3
,
 
4
,
 
5
,
 
6
,
 
7
,
 
8
,
 
9
,
 
1
0
,
 
1
1
,
 
1
2
,
 
1
3
,
 
1
4
,
 
1
5
,
 
1
6
,
 
1
7
,
 
1
8
,
 
1
9
,
 
2
0
,
 
2
1
,
 
2
2
,
 
2
3
,
 
2
4
,
 
2
5
,
 
2
6
,
 
2
7
,
 
2
8
]
 
[
2
9
]
 
(
w
c
 
:
=
 
[
(
h
,
 
.
i
n
r
 
(
1
1
,
 
[
.
r
e
f
 
h
l
k
,
 
.
r
e
f
 
h
v
,
 
.
r
e
f
 
h
t
,
 
.
r
e
f
 
h
c
o
l
,
 
.
r
e
f
 
h
a
n
s
,
 
.
i
n
t
 
c
f
o
r
,
 
.
i
n
t
 
c
b
a
c
k
,
 
.
i
n
t
 
f
i
l
t
]
)
)
,
 
(
h
l
k
,
 
.
i
n
r
 
(
3
,
 
[
.
r
e
f
 
h
v
,
 
.
r
e
f
 
h
t
,
 
.
r
e
f
 
h
p
a
d
,
 
.
r
e
f
 
h
c
h
k
]
)
)
,
 
(
h
v
,
 
.
i
n
r
 
(
1
0
,
 
[
.
i
n
t
 
(
n
I
 
r
v
)
,
 
.
r
e
f
 
h
u
s
e
r
,
 
.
r
e
f
 
h
o
w
n
e
r
,
 
.
r
e
f
 
h
t
r
i
e
d
,
 
.
r
e
f
 
h
i
d
e
n
t
,
 
.
r
e
f
 
h
t
a
p
e
,
 
.
i
n
t
 
g
i
v
e
n
,
 
.
r
e
f
 
h
s
e
c
r
e
t
,
 
.
r
e
f
 
q
e
n
t
,
 
.
r
e
f
 
h
n
o
e
,
 
.
i
n
t
 
p
e
r
m
,
 
.
i
n
t
 
p
l
a
i
n
]
)
)
,
 
(
h
t
r
i
e
d
,
 
.
i
n
r
 
(
6
,
 
[
.
r
e
f
 
a
t
r
i
e
d
,
 
.
i
n
t
 
X
t
r
i
e
d
.
1
]
)
)
,
 
(
a
t
r
i
e
d
,
 
.
i
n
l
 
(
E
.
2
.
1
,
 
1
2
7
,
 
.
i
n
l
 
X
t
r
i
e
d
.
2
)
)
,
 
(
h
i
d
e
n
t
,
 
.
i
n
r
 
(
6
,
 
[
.
r
e
f
 
a
i
d
e
n
t
,
 
.
i
n
t
 
X
i
d
e
n
t
.
1
]
)
)
,
 
(
a
i
d
e
n
t
,
 
.
i
n
l
 
(
E
.
2
.
1
,
 
3
2
,
 
.
i
n
l
 
X
i
d
e
n
t
.
2
)
)
,
 
(
h
s
e
c
r
e
t
,
 
.
i
n
r
 
(
6
,
 
[
.
r
e
f
 
a
s
e
c
r
e
t
,
 
.
i
n
t
 
X
s
e
c
r
e
t
.
1
]
)
)
,
 
(
a
s
e
c
r
e
t
,
 
.
i
n
l
 
(
E
.
2
.
1
,
 
3
2
,
 
.
i
n
l
 
X
s
e
c
r
e
t
.
2
)
)
,
 
(
q
e
n
t
,
 
.
i
n
l
 
(
E
.
2
.
2
.
1
,
 
2
,
 
.
i
n
r
 
(
.
i
n
r
 
(
.
i
n
r
 
(
.
i
n
r
 
(
g
E
n
t
 
[
h
e
0
,
 
h
e
1
]
)
)
)
)
)
)
,
 
(
h
e
0
,
 
.
i
n
r
 
(
6
,
 
[
.
r
e
f
 
a
e
0
,
 
.
i
n
t
 
X
e
0
.
1
]
)
)
,
 
(
a
e
0
,
 
.
i
n
l
 
(
E
.
2
.
1
,
 
4
8
,
 
.
i
n
l
 
X
e
0
.
2
)
)
,
 
(
h
e
1
,
 
.
i
n
r
 
(
6
,
 
[
.
r
e
f
 
a
e
1
,
 
.
i
n
t
 
X
e
1
.
1
]
)
)
,
 
(
a
e
1
,
 
.
i
n
l
 
(
E
.
2
.
1
,
 
4
8
,
 
.
i
n
l
 
X
e
1
.
2
)
)
,
 
(
h
t
,
 
.
i
n
r
 
(
9
,
 
[
.
r
e
f
 
h
s
m
,
 
.
r
e
f
 
h
g
r
,
 
.
r
e
f
 
h
s
r
,
 
.
r
e
f
 
h
b
l
,
 
.
r
e
f
 
h
t
e
x
t
,
 
.
r
e
f
 
h
s
u
m
]
)
)
,
 
(
h
s
m
,
 
.
i
n
r
 
(
7
,
 
[
.
r
e
f
 
q
b
s
m
,
 
.
r
e
f
 
q
s
s
m
]
)
)
,
 
(
q
b
s
m
,
 
.
i
n
l
 
(
E
.
2
.
1
,
 
1
6
,
 
.
i
n
l
 
b
k
s
m
)
)
,
 
(
q
s
s
m
,
 
.
i
n
l
 
(
E
.
2
.
1
,
 
4
,
 
.
i
n
l
 
s
t
s
m
)
)
,
 
(
h
s
r
,
 
.
i
n
r
 
(
8
,
 
[
.
r
e
f
 
q
m
s
r
]
)
)
,
 
(
q
m
s
r
,
 
.
i
n
l
 
(
E
.
2
.
1
,
 
2
5
6
,
 
.
i
n
l
 
m
x
s
r
)
)
,
 
(
h
t
e
x
t
,
 
.
i
n
r
 
(
6
,
 
[
.
r
e
f
 
a
t
e
x
t
,
 
.
i
n
t
 
X
t
e
x
t
.
1
]
)
)
,
 
(
a
t
e
x
t
,
 
.
i
n
l
 
(
E
.
2
.
1
,
 
4
3
2
,
 
.
i
n
l
 
X
t
e
x
t
.
2
)
)
,
 
(
h
s
u
m
,
 
.
i
n
r
 
(
6
,
 
[
.
r
e
f
 
a
s
u
m
,
 
.
i
n
t
 
X
s
u
m
.
1
]
)
)
,
 
(
a
s
u
m
,
 
.
i
n
l
 
(
E
.
2
.
1
,
 
3
2
,
 
.
i
n
l
 
X
s
u
m
.
2
)
)
,
 
(
h
p
a
d
,
 
.
i
n
r
 
(
6
,
 
[
.
r
e
f
 
a
p
a
d
,
 
.
i
n
t
 
X
p
a
d
.
1
]
)
)
,
 
(
a
p
a
d
,
 
.
i
n
l
 
(
E
.
2
.
1
,
 
3
2
,
 
.
i
n
l
 
X
p
a
d
.
2
)
)
,
 
(
h
c
h
k
,
 
.
i
n
r
 
(
6
,
 
[
.
r
e
f
 
a
c
h
k
,
 
.
i
n
t
 
X
c
h
k
.
1
]
)
)
,
 
(
a
c
h
k
,
 
.
i
n
l
 
(
E
.
2
.
1
,
 
3
2
,
 
.
i
n
l
 
X
c
h
k
.
2
)
)
,
 
(
h
c
o
l
,
 
.
i
n
r
 
(
6
,
 
[
.
r
e
f
 
a
c
o
l
,
 
.
i
n
t
 
X
c
o
l
.
1
]
)
)
]
)
 
(
w
r
 
:
=
 
[
(
a
o
u
t
,
 
.
i
n
l
 
(
c
L
,
 
1
,
 
.
i
n
r
 
(
.
i
n
l
 
g
g
)
)
)
]
)
 
r
f
l
 
r
f
l
 
r
f
l
 
(
b
y
 
d
e
c
i
d
e
)
 
0
 
1
1
 
r
f
l
 
r
f
l
 
r
f
l
 
(
k
_
X
1
0
_
o
p
e
n
_
e
 
E
 
s
a
 
l
 
h
s
t
 
h
 
h
l
k
 
h
v
 
h
t
 
h
c
o
l
 
h
a
n
s
 
h
p
a
d
 
h
c
h
k
 
h
u
s
e
r
 
h
o
w
n
e
r
 
h
t
r
i
e
d
 
h
i
d
e
n
t
 
h
t
a
p
e
 
h
s
e
c
r
e
t
 
q
e
n
t
 
h
n
o
e
 
a
t
r
i
e
d
 
a
i
d
e
n
t
 
a
s
e
c
r
e
t
 
h
e
0
 
h
e
1
 
a
e
0
 
a
e
1
 
h
s
m
 
h
g
r
 
h
s
r
 
h
b
l
 
h
t
e
x
t
 
h
s
u
m
 
q
b
s
m
 
q
s
s
m
 
q
m
s
r
 
a
t
e
x
t
 
a
s
u
m
 
a
p
a
d
 
a
c
h
k
 
a
c
o
l
 
r
v
 
c
f
o
r
 
c
b
a
c
k
 
f
i
l
t
 
g
i
v
e
n
 
p
e
r
m
 
p
l
a
i
n
 
X
t
r
i
e
d
 
X
i
d
e
n
t
 
X
s
e
c
r
e
t
 
X
e
0
 
X
e
1
 
b
k
s
m
 
s
t
s
m
 
m
x
s
r
 
X
t
e
x
t
 
X
s
u
m
 
X
p
a
d
 
X
c
h
k
 
X
c
o
l
 
v
c
 
h
2
r
v
)
 
(
c
w
V
 
1
 
h
t
s
 
g
L
_
o
p
e
n
_
X
1
0
_
o
p
e
n
 
r
f
l
 
r
f
l
 
r
f
l
 
(
b
y
 
d
e
c
i
d
e
 
+
k
e
r
n
e
l
)
 
⟨
N
a
t
.
l
e
_
o
f
_
b
l
e
_
e
q
_
t
r
u
e
 
r
f
l
,
 
N
a
t
.
l
e
_
o
f
_
b
l
e
_
e
q
_
t
r
u
e
 
r
f
l
⟩
)
 
r
f
l
 
r
f
l
 
r
f
l
 
(
N
a
t
.
l
e
_
o
f
_
b
l
e
_
e
q
_
t
r
u
e
 
r
f
l
)
 
d
L
_
o
p
e
n
_
4
 
⟨
N
a
t
.
l
e
_
o
f
_
b
l
e
_
e
q
_
t
r
u
e
 
r
f
l
,
 
N
a
t
.
l
e
_
o
f
_
b
l
e
_
e
q
_
t
r
u
e
 
r
f
l
⟩
 
(
f
u
n
 
n
m
_
3
4
 
c
e
_
3
4
 
q
_
3
4
 
H
_
3
5
 
l
o
c
s
_
3
5
 
p
x
_
3
4
 
h
P
_
3
5
 
h
D
_
3
5
 
h
S
_
3
5
 
h
c
e
_
3
4
 
h
c
v
_
3
4
 
h
c
l
_
3
4
 
=
>
 
?
_
)
 
(
f
u
n
 
r
_
3
1
 
u
_
3
1
 
H
_
3
2
 
l
o
c
s
_
3
2
 
h
u
_
3
1
 
h
P
_
3
2
 
h
D
_
3
2
 
h
S
_
3
2
 
=
>
 
?
_
)


 
 
·
 
r
e
p
l
a
c
e
 
h
P
_
3
5
 
:
 
v
a
_
P
 
E
.
1
 
v
w
C
l
 
[
(
a
o
u
t
,
 
.
i
n
l
 
(
c
L
,
 
1
,
 
.
i
n
r
 
(
.
i
n
l
 
g
g
)
)
)
,
 
(
h
,
 
.
i
n
r
 
(
1
1
,
 
[
.
r
e
f
 
h
l
k
,
 
.
r
e
f
 
h
v
,
 
.
r
e
f
 
h
t
,
 
.
r
e
f
 
h
c
o
l
,
 
.
r
e
f
 
h
a
n
s
,
 
.
i
n
t
 
c
f
o
r
,
 
.
i
n
t
 
c
b
a
c
k
,
 
.
i
n
t
 
f
i
l
t
]
)
)
,
 
(
h
l
k
,
 
.
i
n
r
 
(
3
,
 
[
.
r
e
f
 
h
v
,
 
.
r
e
f
 
h
t
,
 
.
r
e
f
 
h
p
a
d
,
 
.
r
e
f
 
h
c
h
k
]
)
)
,
 
(
h
v
,
 
.
i
n
r
 
(
1
0
,
 
[
.
i
n
t
 
(
n
I
 
r
v
)
,
 
.
r
e
f
 
h
u
s
e
r
,
 
.
r
e
f
 
h
o
w
n
e
r
,
 
.
r
e
f
 
h
t
r
i
e
d
,
 
.
r
e
f
 
h
i
d
e
n
t
,
 
.
r
e
f
 
h
t
a
p
e
,
 
.
i
n
t
 
g
i
v
e
n
,
 
.
r
e
f
 
h
s
e
c
r
e
t
,
 
.
r
e
f
 
q
e
n
t
,
 
.
r
e
f
 
h
n
o
e
,
 
.
i
n
t
 
p
e
r
m
,
 
.
i
n
t
 
p
l
a
i
n
]
)
)
,
 
(
h
t
r
i
e
d
,
 
.
i
n
r
 
(
6
,
 
[
.
r
e
f
 
a
t
r
i
e
d
,
 
.
i
n
t
 
X
t
r
i
e
d
.
1
]
)
)
,
 
(
a
t
r
i
e
d
,
 
.
i
n
l
 
(
E
.
2
.
1
,
 
1
2
7
,
 
.
i
n
l
 
X
t
r
i
e
d
.
2
)
)
,
 
(
h
i
d
e
n
t
,
 
.
i
n
r
 
(
6
,
 
[
.
r
e
f
 
a
i
d
e
n
t
,
 
.
i
n
t
 
X
i
d
e
n
t
.
1
]
)
)
,
 
(
a
i
d
e
n
t
,
 
.
i
n
l
 
(
E
.
2
.
1
,
 
3
2
,
 
.
i
n
l
 
X
i
d
e
n
t
.
2
)
)
,
 
(
h
s
e
c
r
e
t
,
 
.
i
n
r
 
(
6
,
 
[
.
r
e
f
 
a
s
e
c
r
e
t
,
 
.
i
n
t
 
X
s
e
c
r
e
t
.
1
]
)
)
,
 
(
a
s
e
c
r
e
t
,
 
.
i
n
l
 
(
E
.
2
.
1
,
 
3
2
,
 
.
i
n
l
 
X
s
e
c
r
e
t
.
2
)
)
,
 
(
q
e
n
t
,
 
.
i
n
l
 
(
E
.
2
.
2
.
1
,
 
2
,
 
.
i
n
r
 
(
.
i
n
r
 
(
.
i
n
r
 
(
.
i
n
r
 
(
g
E
n
t
 
[
h
e
0
,
 
h
e
1
]
)
)
)
)
)
)
,
 
(
h
e
0
,
 
.
i
n
r
 
(
6
,
 
[
.
r
e
f
 
a
e
0
,
 
.
i
n
t
 
X
e
0
.
1
]
)
)
,
 
(
a
e
0
,
 
.
i
n
l
 
(
E
.
2
.
1
,
 
4
8
,
 
.
i
n
l
 
X
e
0
.
2
)
)
,
 
(
h
e
1
,
 
.
i
n
r
 
(
6
,
 
[
.
r
e
f
 
a
e
1
,
 
.
i
n
t
 
X
e
1
.
1
]
)
)
,
 
(
a
e
1
,
 
.
i
n
l
 
(
E
.
2
.
1
,
 
4
8
,
 
.
i
n
l
 
X
e
1
.
2
)
)
,
 
(
h
t
,
 
.
i
n
r
 
(
9
,
 
[
.
r
e
f
 
h
s
m
,
 
.
r
e
f
 
h
g
r
,
 
.
r
e
f
 
h
s
r
,
 
.
r
e
f
 
h
b
l
,
 
.
r
e
f
 
h
t
e
x
t
,
 
.
r
e
f
 
h
s
u
m
]
)
)
,
 
(
h
s
m
,
 
.
i
n
r
 
(
7
,
 
[
.
r
e
f
 
q
b
s
m
,
 
.
r
e
f
 
q
s
s
m
]
)
)
,
 
(
q
b
s
m
,
 
.
i
n
l
 
(
E
.
2
.
1
,
 
1
6
,
 
.
i
n
l
 
b
k
s
m
)
)
,
 
(
q
s
s
m
,
 
.
i
n
l
 
(
E
.
2
.
1
,
 
4
,
 
.
i
n
l
 
s
t
s
m
)
)
,
 
(
h
s
r
,
 
.
i
n
r
 
(
8
,
 
[
.
r
e
f
 
q
m
s
r
]
)
)
,
 
(
q
m
s
r
,
 
.
i
n
l
 
(
E
.
2
.
1
,
 
2
5
6
,
 
.
i
n
l
 
m
x
s
r
)
)
,
 
(
h
t
e
x
t
,
 
.
i
n
r
 
(
6
,
 
[
.
r
e
f
 
a
t
e
x
t
,
 
.
i
n
t
 
X
t
e
x
t
.
1
]
)
)
,
 
(
a
t
e
x
t
,
 
.
i
n
l
 
(
E
.
2
.
1
,
 
4
3
2
,
 
.
i
n
l
 
X
t
e
x
t
.
2
)
)
,
 
(
h
s
u
m
,
 
.
i
n
r
 
(
6
,
 
[
.
r
e
f
 
a
s
u
m
,
 
.
i
n
t
 
X
s
u
m
.
1
]
)
)
,
 
(
a
s
u
m
,
 
.
i
n
l
 
(
E
.
2
.
1
,
 
3
2
,
 
.
i
n
l
 
X
s
u
m
.
2
)
)
,
 
(
h
p
a
d
,
 
.
i
n
r
 
(
6
,
 
[
.
r
e
f
 
a
p
a
d
,
 
.
i
n
t
 
X
p
a
d
.
1
]
)
)
,
 
(
a
p
a
d
,
 
.
i
n
l
 
(
E
.
2
.
1
,
 
3
2
,
 
.
i
n
l
 
X
p
a
d
.
2
)
)
,
 
(
h
c
h
k
,
 
.
i
n
r
 
(
6
,
 
[
.
r
e
f
 
a
c
h
k
,
 
.
i
n
t
 
X
c
h
k
.
1
]
)
)
,
 
(
a
c
h
k
,
 
.
i
n
l
 
(
E
.
2
.
1
,
 
3
2
,
 
.
i
n
l
 
X
c
h
k
.
2
)
)
,
 
(
h
c
o
l
,
 
.
i
n
r
 
(
6
,
 
[
.
r
e
f
 
a
c
o
l
,
 
.
i
n
t
 
X
c
o
l
.
1
]
)
)
]
 
H
_
3
5
 
:
=
 
h
P
_
3
5


 
 
 
 
r
e
p
l
a
c
e
 
h
D
_
3
5
 
:
 
v
a
_
D
 
A
 
[
(
a
o
u
t
,
 
.
i
n
l
 
(
c
L
,
 
1
,
 
.
i
n
r
 
(
.
i
n
l
 
g
g
)
)
)
,
 
(
h
,
 
.
i
n
r
 
(
1
1
,
 
[
.
r
e
f
 
h
l
k
,
 
.
r
e
f
 
h
v
,
 
.
r
e
f
 
h
t
,
 
.
r
e
f
 
h
c
o
l
,
 
.
r
e
f
 
h
a
n
s
,
 
.
i
n
t
 
c
f
o
r
,
 
.
i
n
t
 
c
b
a
c
k
,
 
.
i
n
t
 
f
i
l
t
]
)
)
,
 
(
h
l
k
,
 
.
i
n
r
 
(
3
,
 
[
.
r
e
f
 
h
v
,
 
.
r
e
f
 
h
t
,
 
.
r
e
f
 
h
p
a
d
,
 
.
r
e
f
 
h
c
h
k
]
)
)
,
 
(
h
v
,
 
.
i
n
r
 
(
1
0
,
 
[
.
i
n
t
 
(
n
I
 
r
v
)
,
 
.
r
e
f
 
h
u
s
e
r
,
 
.
r
e
f
 
h
o
w
n
e
r
,
 
.
r
e
f
 
h
t
r
i
e
d
,
 
.
r
e
f
 
h
i
d
e
n
t
,
 
.
r
e
f
 
h
t
a
p
e
,
 
.
i
n
t
 
g
i
v
e
n
,
 
.
r
e
f
 
h
s
e
c
r
e
t
,
 
.
r
e
f
 
q
e
n
t
,
 
.
r
e
f
 
h
n
o
e
,
 
.
i
n
t
 
p
e
r
m
,
 
.
i
n
t
 
p
l
a
i
n
]
)
)
,
 
(
h
t
r
i
e
d
,
 
.
i
n
r
 
(
6
,
 
[
.
r
e
f
 
a
t
r
i
e
d
,
 
.
i
n
t
 
X
t
r
i
e
d
.
1
]
)
)
,
 
(
a
t
r
i
e
d
,
 
.
i
n
l
 
(
E
.
2
.
1
,
 
1
2
7
,
 
.
i
n
l
 
X
t
r
i
e
d
.
2
)
)
,
 
(
h
i
d
e
n
t
,
 
.
i
n
r
 
(
6
,
 
[
.
r
e
f
 
a
i
d
e
n
t
,
 
.
i
n
t
 
X
i
d
e
n
t
.
1
]
)
)
,
 
(
a
i
d
e
n
t
,
 
.
i
n
l
 
(
E
.
2
.
1
,
 
3
2
,
 
.
i
n
l
 
X
i
d
e
n
t
.
2
)
)
,
 
(
h
s
e
c
r
e
t
,
 
.
i
n
r
 
(
6
,
 
[
.
r
e
f
 
a
s
e
c
r
e
t
,
 
.
i
n
t
 
X
s
e
c
r
e
t
.
1
]
)
)
,
 
(
a
s
e
c
r
e
t
,
 
.
i
n
l
 
(
E
.
2
.
1
,
 
3
2
,
 
.
i
n
l
 
X
s
e
c
r
e
t
.
2
)
)
,
 
(
q
e
n
t
,
 
.
i
n
l
 
(
E
.
2
.
2
.
1
,
 
2
,
 
.
i
n
r
 
(
.
i
n
r
 
(
.
i
n
r
 
(
.
i
n
r
 
(
g
E
n
t
 
[
h
e
0
,
 
h
e
1
]
)
)
)
)
)
)
,
 
(
h
e
0
,
 
.
i
n
r
 
(
6
,
 
[
.
r
e
f
 
a
e
0
,
 
.
i
n
t
 
X
e
0
.
1
]
)
)
,
 
(
a
e
0
,
 
.
i
n
l
 
(
E
.
2
.
1
,
 
4
8
,
 
.
i
n
l
 
X
e
0
.
2
)
)
,
 
(
h
e
1
,
 
.
i
n
r
 
(
6
,
 
[
.
r
e
f
 
a
e
1
,
 
.
i
n
t
 
X
e
1
.
1
]
)
)
,
 
(
a
e
1
,
 
.
i
n
l
 
(
E
.
2
.
1
,
 
4
8
,
 
.
i
n
l
 
X
e
1
.
2
)
)
,
 
(
h
t
,
 
.
i
n
r
 
(
9
,
 
[
.
r
e
f
 
h
s
m
,
 
.
r
e
f
 
h
g
r
,
 
.
r
e
f
 
h
s
r
,
 
.
r
e
f
 
h
b
l
,
 
.
r
e
f
 
h
t
e
x
t
,
 
.
r
e
f
 
h
s
u
m
]
)
)
,
 
(
h
s
m
,
 
.
i
n
r
 
(
7
,
 
[
.
r
e
f
 
q
b
s
m
,
 
.
r
e
f
 
q
s
s
m
]
)
)
,
 
(
q
b
s
m
,
 
.
i
n
l
 
(
E
.
2
.
1
,
 
1
6
,
 
.
i
n
l
 
b
k
s
m
)
)
,
 
(
q
s
s
m
,
 
.
i
n
l
 
(
E
.
2
.
1
,
 
4
,
 
.
i
n
l
 
s
t
s
m
)
)
,
 
(
h
s
r
,
 
.
i
n
r
 
(
8
,
 
[
.
r
e
f
 
q
m
s
r
]
)
)
,
 
(
q
m
s
r
,
 
.
i
n
l
 
(
E
.
2
.
1
,
 
2
5
6
,
 
.
i
n
l
 
m
x
s
r
)
)
,
 
(
h
t
e
x
t
,
 
.
i
n
r
 
(
6
,
 
[
.
r
e
f
 
a
t
e
x
t
,
 
.
i
n
t
 
X
t
e
x
t
.
1
]
)
)
,
 
(
a
t
e
x
t
,
 
.
i
n
l
 
(
E
.
2
.
1
,
 
4
3
2
,
 
.
i
n
l
 
X
t
e
x
t
.
2
)
)
,
 
(
h
s
u
m
,
 
.
i
n
r
 
(
6
,
 
[
.
r
e
f
 
a
s
u
m
,
 
.
i
n
t
 
X
s
u
m
.
1
]
)
)
,
 
(
a
s
u
m
,
 
.
i
n
l
 
(
E
.
2
.
1
,
 
3
2
,
 
.
i
n
l
 
X
s
u
m
.
2
)
)
,
 
(
h
p
a
d
,
 
.
i
n
r
 
(
6
,
 
[
.
r
e
f
 
a
p
a
d
,
 
.
i
n
t
 
X
p
a
d
.
1
]
)
)
,
 
(
a
p
a
d
,
 
.
i
n
l
 
(
E
.
2
.
1
,
 
3
2
,
 
.
i
n
l
 
X
p
a
d
.
2
)
)
,
 
(
h
c
h
k
,
 
.
i
n
r
 
(
6
,
 
[
.
r
e
f
 
a
c
h
k
,
 
.
i
n
t
 
X
c
h
k
.
1
]
)
)
,
 
(
a
c
h
k
,
 
.
i
n
l
 
(
E
.
2
.
1
,
 
3
2
,
 
.
i
n
l
 
X
c
h
k
.
2
)
)
,
 
(
h
c
o
l
,
 
.
i
n
r
 
(
6
,
 
[
.
r
e
f
 
a
c
o
l
,
 
.
i
n
t
 
X
c
o
l
.
1
]
)
)
]
 
:
=
 
h
D
_
3
5


 
 
 
 
c
l
e
a
r
 
h
P
 
h
D
 
h
S


 
 
 
 
h
a
v
e
 
c
_
3
6
 
:
 
¬
 
t
_
3
3
.
1
 
=
 
0
 
:
=
 
b
y
 
r
w
 
[
h
t
_
3
3
]
;
 
e
x
a
c
t
 
p
x
_
3
4
.
2


 
 
 
 
b
y
_
c
a
s
e
s
 
c
_
3
7
 
:
 
t
_
3
3
.
1
 
=
 
2


 
 
 
 
·
 
o
b
t
a
i
n
 
r
f
l
 
:
 
n
m
_
3
4
 
=
 
"
j
a
v
a
/
l
a
n
g
/
I
l
l
e
g
a
l
A
r
g
u
m
e
n
t
E
x
c
e
p
t
i
o
n
"
 
:
=
 
p
x
_
3
4
.
1
.
t
r
a
n
s
 
(
b
y
 
r
w
 
[
←
 
h
t
_
3
3
,
 
c
_
3
7
]
;
 
r
f
l
)


 
 
 
 
 
 
r
e
f
i
n
e
 
v
x
_
c
a
t
c
h
 
h
o
w
n
 
[
]
 
⟨
0
,
 
9
,
 
1
2
,
 
4
1
⟩
 
[
⟨
0
,
 
9
,
 
1
5
,
 
2
6
⟩
,
 
⟨
0
,
 
9
,
 
1
8
,
 
1
3
⟩
]
 
(
b
y
 
r
w
 
[
h
t
a
b
]
;
 
r
f
l
)
 
(
f
u
n
 
z
 
h
9
 
=
>
 
a
b
s
u
r
d
 
h
9
 
L
i
s
t
.
n
o
t
_
m
e
m
_
n
i
l
)
 
(
b
y
 
d
e
c
i
d
e
)
 
(
b
y
 
d
e
c
i
d
e
)
 
w
_
0
 
(
v
a
_
N
w
.
u
s
e
 
r
f
l
 
(
h
X
.
2
.
1
 
(
.
c
a
s
t
a
b
l
e
 
"
j
a
v
a
/
l
a
n
g
/
I
l
l
e
g
a
l
A
r
g
u
m
e
n
t
E
x
c
e
p
t
i
o
n
"
 
"
j
a
v
a
/
l
a
n
g
/
I
l
l
e
g
a
l
A
r
g
u
m
e
n
t
E
x
c
e
p
t
i
o
n
"
)
 
(
b
y
 
d
e
c
i
d
e
 
+
k
e
r
n
e
l
)
)
)
 
h
c
e
_
3
4
 
h
c
v
_
3
4
 
h
c
l
_
3
4
 
?
_


 
 
 
 
 
 
r
e
f
i
n
e
 
l
v
_
a
s
t
o
r
e
_
n
 
(
l
v
'
 
:
=
 
[
(
3
,
 
.
r
e
f
 
q
_
3
4
)
,
 
(
0
,
 
.
r
e
f
 
h
)
,
 
(
1
,
 
.
i
n
t
 
v
c
)
,
 
(
2
,
 
.
r
e
f
 
a
o
u
t
)
]
)
 
h
x
 
h
b
 
d
L
_
o
p
e
n
_
1
2
 
r
f
l
 
h
l
 
(
b
y
 
d
e
c
i
d
e
)
 
r
f
l
 
(
f
u
n
 
l
s
_
3
8
 
h
l
_
3
8
 
=
>
 
?
_
)


 
 
 
 
 
 
c
l
e
a
r
 
h
l


 
 
 
 
 
 
r
e
f
i
n
e
 
l
v
_
i
c
o
n
s
t
 
(
v
 
:
=
 
1
)
 
h
x
 
h
b
 
d
L
_
o
p
e
n
_
1
3
 
(
b
y
 
d
e
c
i
d
e
)
 
?
_


 
 
 
 
 
 
r
e
f
i
n
e
 
v
x
_
r
e
t
 
?
_


 
 
 
 
 
 
h
a
v
e
 
h
p
o
s
t
 
:
 
(
(
1
,
 
(
X
t
r
i
e
d
,
 
X
s
e
c
r
e
t
,
 
b
k
s
m
,
 
s
t
s
m
,
 
m
x
s
r
,
 
X
t
e
x
t
,
 
X
s
u
m
,
 
X
p
a
d
,
 
X
c
h
k
,
 
X
c
o
l
,
 
g
g
)
)
 
:
 
I
n
t
3
2
 
×
 
(
g
R
o
w
 
×
 
g
R
o
w
 
×
 
(
N
a
t
 
→
 
I
n
t
3
2
)
 
×
 
(
N
a
t
 
→
 
I
n
t
3
2
)
 
×
 
(
N
a
t
 
→
 
I
n
t
3
2
)
 
×
 
g
R
o
w
 
×
 
g
R
o
w
 
×
 
g
R
o
w
 
×
 
g
R
o
w
 
×
 
g
R
o
w
 
×
 
(
N
a
t
 
→
 
I
n
t
6
4
)
)
)
 
=
 
F
_
L
_
o
p
e
n
_
e
 
r
v
 
p
e
r
m
 
p
l
a
i
n
 
X
t
r
i
e
d
 
X
i
d
e
n
t
 
X
s
e
c
r
e
t
 
X
e
0
 
X
e
1
 
b
k
s
m
 
s
t
s
m
 
m
x
s
r
 
X
t
e
x
t
 
X
s
u
m
 
X
p
a
d
 
X
c
h
k
 
X
c
o
l
 
g
g
 
v
c
 
:
=
 
(
s
h
o
w
 
F
_
L
_
o
p
e
n
_
e
 
r
v
 
p
e
r
m
 
p
l
a
i
n
 
X
t
r
i
e
d
 
X
i
d
e
n
t
 
X
s
e
c
r
e
t
 
X
e
0
 
X
e
1
 
b
k
s
m
 
s
t
s
m
 
m
x
s
r
 
X
t
e
x
t
 
X
s
u
m
 
X
p
a
d
 
X
c
h
k
 
X
c
o
l
 
g
g
 
v
c
 
=
 
(
(
1
,
 
(
X
t
r
i
e
d
,
 
X
s
e
c
r
e
t
,
 
b
k
s
m
,
 
s
t
s
m
,
 
m
x
s
r
,
 
X
t
e
x
t
,
 
X
s
u
m
,
 
X
p
a
d
,
 
X
c
h
k
,
 
X
c
o
l
,
 
g
g
)
)
 
:
 
I
n
t
3
2
 
×
 
(
g
R
o
w
 
×
 
g
R
o
w
 
×
 
(
N
a
t
 
→
 
I
n
t
3
2
)
 
×
 
(
N
a
t
 
→
 
I
n
t
3
2
)
 
×
 
(
N
a
t
 
→
 
I
n
t
3
2
)
 
×
 
g
R
o
w
 
×
 
g
R
o
w
 
×
 
g
R
o
w
 
×
 
g
R
o
w
 
×
 
g
R
o
w
 
×
 
(
N
a
t
 
→
 
I
n
t
6
4
)
)
)
 
f
r
o
m
 
(
g
L
e
t
_
e
q
 
h
t
_
3
3
 
(
(
i
f
_
n
e
g
 
c
_
3
6
)
.
t
r
a
n
s
 
(
(
i
f
_
p
o
s
 
c
_
3
7
)
.
t
r
a
n
s
 
r
f
l
)
)
)
)
.
s
y
m
m


 
 
 
 
 
 
h
a
v
e
 
h
P
9
 
:
=
 
h
P
_
3
5
.
s
u
b
 
(
w
s
'
 
:
=
 
[
(
h
,
 
.
i
n
r
 
(
1
1
,
 
[
.
r
e
f
 
h
l
k
,
 
.
r
e
f
 
h
v
,
 
.
r
e
f
 
h
t
,
 
.
r
e
f
 
h
c
o
l
,
 
.
r
e
f
 
h
a
n
s
,
 
.
i
n
t
 
c
f
o
r
,
 
.
i
n
t
 
c
b
a
c
k
,
 
.
i
n
t
 
f
i
l
t
]
)
)
,
 
(
h
l
k
,
 
.
i
n
r
 
(
3
,
 
[
.
r
e
f
 
h
v
,
 
.
r
e
f
 
h
t
,
 
.
r
e
f
 
h
p
a
d
,
 
.
r
e
f
 
h
c
h
k
]
)
)
,
 
(
h
v
,
 
.
i
n
r
 
(
1
0
,
 
[
.
i
n
t
 
(
n
I
 
r
v
)
,
 
.
r
e
f
 
h
u
s
e
r
,
 
.
r
e
f
 
h
o
w
n
e
r
,
 
.
r
e
f
 
h
t
r
i
e
d
,
 
.
r
e
f
 
h
i
d
e
n
t
,
 
.
r
e
f
 
h
t
a
p
e
,
 
.
i
n
t
 
g
i
v
e
n
,
 
.
r
e
f
 
h
s
e
c
r
e
t
,
 
.
r
e
f
 
q
e
n
t
,
 
.
r
e
f
 
h
n
o
e
,
 
.
i
n
t
 
p
e
r
m
,
 
.
i
n
t
 
p
l
a
i
n
]
)
)
,
 
(
h
t
r
i
e
d
,
 
.
i
n
r
 
(
6
,
 
[
.
r
e
f
 
a
t
r
i
e
d
,
 
.
i
n
t
 
X
t
r
i
e
d
.
1
]
)
)
,
 
(
a
t
r
i
e
d
,
 
.
i
n
l
 
(
E
.
2
.
1
,
 
1
2
7
,
 
.
i
n
l
 
X
t
r
i
e
d
.
2
)
)
,
 
(
h
i
d
e
n
t
,
 
.
i
n
r
 
(
6
,
 
[
.
r
e
f
 
a
i
d
e
n
t
,
 
.
i
n
t
 
X
i
d
e
n
t
.
1
]
)
)
,
 
(
a
i
d
e
n
t
,
 
.
i
n
l
 
(
E
.
2
.
1
,
 
3
2
,
 
.
i
n
l
 
X
i
d
e
n
t
.
2
)
)
,
 
(
h
s
e
c
r
e
t
,
 
.
i
n
r
 
(
6
,
 
[
.
r
e
f
 
a
s
e
c
r
e
t
,
 
.
i
n
t
 
X
s
e
c
r
e
t
.
1
]
)
)
,
 
(
a
s
e
c
r
e
t
,
 
.
i
n
l
 
(
E
.
2
.
1
,
 
3
2
,
 
.
i
n
l
 
X
s
e
c
r
e
t
.
2
)
)
,
 
(
q
e
n
t
,
 
.
i
n
l
 
(
E
.
2
.
2
.
1
,
 
2
,
 
.
i
n
r
 
(
.
i
n
r
 
(
.
i
n
r
 
(
.
i
n
r
 
(
g
E
n
t
 
[
h
e
0
,
 
h
e
1
]
)
)
)
)
)
)
,
 
(
h
e
0
,
 
.
i
n
r
 
(
6
,
 
[
.
r
e
f
 
a
e
0
,
 
.
i
n
t
 
X
e
0
.
1
]
)
)
,
 
(
a
e
0
,
 
.
i
n
l
 
(
E
.
2
.
1
,
 
4
8
,
 
.
i
n
l
 
X
e
0
.
2
)
)
,
 
(
h
e
1
,
 
.
i
n
r
 
(
6
,
 
[
.
r
e
f
 
a
e
1
,
 
.
i
n
t
 
X
e
1
.
1
]
)
)
,
 
(
a
e
1
,
 
.
i
n
l
 
(
E
.
2
.
1
,
 
4
8
,
 
.
i
n
l
 
X
e
1
.
2
)
)
,
 
(
h
t
,
 
.
i
n
r
 
(
9
,
 
[
.
r
e
f
 
h
s
m
,
 
.
r
e
f
 
h
g
r
,
 
.
r
e
f
 
h
s
r
,
 
.
r
e
f
 
h
b
l
,
 
.
r
e
f
 
h
t
e
x
t
,
 
.
r
e
f
 
h
s
u
m
]
)
)
,
 
(
h
s
m
,
 
.
i
n
r
 
(
7
,
 
[
.
r
e
f
 
q
b
s
m
,
 
.
r
e
f
 
q
s
s
m
]
)
)
,
 
(
q
b
s
m
,
 
.
i
n
l
 
(
E
.
2
.
1
,
 
1
6
,
 
.
i
n
l
 
b
k
s
m
)
)
,
 
(
q
s
s
m
,
 
.
i
n
l
 
(
E
.
2
.
1
,
 
4
,
 
.
i
n
l
 
s
t
s
m
)
)
,
 
(
h
s
r
,
 
.
i
n
r
 
(
8
,
 
[
.
r
e
f
 
q
m
s
r
]
)
)
,
 
(
q
m
s
r
,
 
.
i
n
l
 
(
E
.
2
.
1
,
 
2
5
6
,
 
.
i
n
l
 
m
x
s
r
)
)
,
 
(
h
t
e
x
t
,
 
.
i
n
r
 
(
6
,
 
[
.
r
e
f
 
a
t
e
x
t
,
 
.
i
n
t
 
X
t
e
x
t
.
1
]
)
)
,
 
(
a
t
e
x
t
,
 
.
i
n
l
 
(
E
.
2
.
1
,
 
4
3
2
,
 
.
i
n
l
 
X
t
e
x
t
.
2
)
)
,
 
(
h
s
u
m
,
 
.
i
n
r
 
(
6
,
 
[
.
r
e
f
 
a
s
u
m
,
 
.
i
n
t
 
X
s
u
m
.
1
]
)
)
,
 
(
a
s
u
m
,
 
.
i
n
l
 
(
E
.
2
.
1
,
 
3
2
,
 
.
i
n
l
 
X
s
u
m
.
2
)
)
,
 
(
h
p
a
d
,
 
.
i
n
r
 
(
6
,
 
[
.
r
e
f
 
a
p
a
d
,
 
.
i
n
t
 
X
p
a
d
.
1
]
)
)
,
 
(
a
p
a
d
,
 
.
i
n
l
 
(
E
.
2
.
1
,
 
3
2
,
 
.
i
n
l
 
X
p
a
d
.
2
)
)
,
 
(
h
c
h
k
,
 
.
i
n
r
 
(
6
,
 
[
.
r
e
f
 
a
c
h
k
,
 
.
i
n
t
 
X
c
h
k
.
1
]
)
)
,
 
(
a
c
h
k
,
 
.
i
n
l
 
(
E
.
2
.
1
,
 
3
2
,
 
.
i
n
l
 
X
c
h
k
.
2
)
)
,
 
(
h
c
o
l
,
 
.
i
n
r
 
(
6
,
 
[
.
r
e
f
 
a
c
o
l
,
 
.
i
n
t
 
X
c
o
l
.
1
]
)
)
,
 
(
a
o
u
t
,
 
.
i
n
l
 
(
c
L
,
 
1
,
 
.
i
n
r
 
(
.
i
n
l
 
g
g
)
)
)
]
)
 
[
1
,
 
2
,
 
3
,
 
4
,
 
5
,
 
6
,
 
7
,
 
8
,
 
9
,
 
1
0
,
 
1
1
,
 
1
2
,
 
1
3
,
 
1
4
,
 
1
5
,
 
1
6
,
 
1
7
,
 
1
8
,
 
1
9
,
 
2
0
,
 
2
1
,
 
2
2
,
 
2
3
,
 
2
4
,
 
2
5
,
 
2
6
,
 
2
7
,
 
2
8
,
 
2
9
,
 
0
]
 
r
f
l


 
 
 
 
 
 
h
a
v
e
 
h
D
9
 
:
=
 
h
D
_
3
5
.
s
u
b
 
(
w
s
'
 
:
=
 
[
(
h
,
 
.
i
n
r
 
(
1
1
,
 
[
.
r
e
f
 
h
l
k
,
 
.
r
e
f
 
h
v
,
 
.
r
e
f
 
h
t
,
 
.
r
e
f
 
h
c
o
l
,
 
.
r
e
f
 
h
a
n
s
,
 
.
i
n
t
 
c
f
o
r
,
 
.
i
n
t
 
c
b
a
c
k
,
 
.
i
n
t
 
f
i
l
t
]
)
)
,
 
(
h
l
k
,
 
.
i
n
r
 
(
3
,
 
[
.
r
e
f
 
h
v
,
 
.
r
e
f
 
h
t
,
 
.
r
e
f
 
h
p
a
d
,
 
.
r
e
f
 
h
c
h
k
]
)
)
,
 
(
h
v
,
 
.
i
n
r
 
(
1
0
,
 
[
.
i
n
t
 
(
n
I
 
r
v
)
,
 
.
r
e
f
 
h
u
s
e
r
,
 
.
r
e
f
 
h
o
w
n
e
r
,
 
.
r
e
f
 
h
t
r
i
e
d
,
 
.
r
e
f
 
h
i
d
e
n
t
,
 
.
r
e
f
 
h
t
a
p
e
,
 
.
i
n
t
 
g
i
v
e
n
,
 
.
r
e
f
 
h
s
e
c
r
e
t
,
 
.
r
e
f
 
q
e
n
t
,
 
.
r
e
f
 
h
n
o
e
,
 
.
i
n
t
 
p
e
r
m
,
 
.
i
n
t
 
p
l
a
i
n
]
)
)
,
 
(
h
t
r
i
e
d
,
 
.
i
n
r
 
(
6
,
 
[
.
r
e
f
 
a
t
r
i
e
d
,
 
.
i
n
t
 
X
t
r
i
e
d
.
1
]
)
)
,
 
(
a
t
r
i
e
d
,
 
.
i
n
l
 
(
E
.
2
.
1
,
 
1
2
7
,
 
.
i
n
l
 
X
t
r
i
e
d
.
2
)
)
,
 
(
h
i
d
e
n
t
,
 
.
i
n
r
 
(
6
,
 
[
.
r
e
f
 
a
i
d
e
n
t
,
 
.
i
n
t
 
X
i
d
e
n
t
.
1
]
)
)
,
 
(
a
i
d
e
n
t
,
 
.
i
n
l
 
(
E
.
2
.
1
,
 
3
2
,
 
.
i
n
l
 
X
i
d
e
n
t
.
2
)
)
,
 
(
h
s
e
c
r
e
t
,
 
.
i
n
r
 
(
6
,
 
[
.
r
e
f
 
a
s
e
c
r
e
t
,
 
.
i
n
t
 
X
s
e
c
r
e
t
.
1
]
)
)
,
 
(
a
s
e
c
r
e
t
,
 
.
i
n
l
 
(
E
.
2
.
1
,
 
3
2
,
 
.
i
n
l
 
X
s
e
c
r
e
t
.
2
)
)
,
 
(
q
e
n
t
,
 
.
i
n
l
 
(
E
.
2
.
2
.
1
,
 
2
,
 
.
i
n
r
 
(
.
i
n
r
 
(
.
i
n
r
 
(
.
i
n
r
 
(
g
E
n
t
 
[
h
e
0
,
 
h
e
1
]
)
)
)
)
)
)
,
 
(
h
e
0
,
 
.
i
n
r
 
(
6
,
 
[
.
r
e
f
 
a
e
0
,
 
.
i
n
t
 
X
e
0
.
1
]
)
)
,
 
(
a
e
0
,
 
.
i
n
l
 
(
E
.
2
.
1
,
 
4
8
,
 
.
i
n
l
 
X
e
0
.
2
)
)
,
 
(
h
e
1
,
 
.
i
n
r
 
(
6
,
 
[
.
r
e
f
 
a
e
1
,
 
.
i
n
t
 
X
e
1
.
1
]
)
)
,
 
(
a
e
1
,
 
.
i
n
l
 
(
E
.
2
.
1
,
 
4
8
,
 
.
i
n
l
 
X
e
1
.
2
)
)
,
 
(
h
t
,
 
.
i
n
r
 
(
9
,
 
[
.
r
e
f
 
h
s
m
,
 
.
r
e
f
 
h
g
r
,
 
.
r
e
f
 
h
s
r
,
 
.
r
e
f
 
h
b
l
,
 
.
r
e
f
 
h
t
e
x
t
,
 
.
r
e
f
 
h
s
u
m
]
)
)
,
 
(
h
s
m
,
 
.
i
n
r
 
(
7
,
 
[
.
r
e
f
 
q
b
s
m
,
 
.
r
e
f
 
q
s
s
m
]
)
)
,
 
(
q
b
s
m
,
 
.
i
n
l
 
(
E
.
2
.
1
,
 
1
6
,
 
.
i
n
l
 
b
k
s
m
)
)
,
 
(
q
s
s
m
,
 
.
i
n
l
 
(
E
.
2
.
1
,
 
4
,
 
.
i
n
l
 
s
t
s
m
)
)
,
 
(
h
s
r
,
 
.
i
n
r
 
(
8
,
 
[
.
r
e
f
 
q
m
s
r
]
)
)
,
 
(
q
m
s
r
,
 
.
i
n
l
 
(
E
.
2
.
1
,
 
2
5
6
,
 
.
i
n
l
 
m
x
s
r
)
)
,
 
(
h
t
e
x
t
,
 
.
i
n
r
 
(
6
,
 
[
.
r
e
f
 
a
t
e
x
t
,
 
.
i
n
t
 
X
t
e
x
t
.
1
]
)
)
,
 
(
a
t
e
x
t
,
 
.
i
n
l
 
(
E
.
2
.
1
,
 
4
3
2
,
 
.
i
n
l
 
X
t
e
x
t
.
2
)
)
,
 
(
h
s
u
m
,
 
.
i
n
r
 
(
6
,
 
[
.
r
e
f
 
a
s
u
m
,
 
.
i
n
t
 
X
s
u
m
.
1
]
)
)
,
 
(
a
s
u
m
,
 
.
i
n
l
 
(
E
.
2
.
1
,
 
3
2
,
 
.
i
n
l
 
X
s
u
m
.
2
)
)
,
 
(
h
p
a
d
,
 
.
i
n
r
 
(
6
,
 
[
.
r
e
f
 
a
p
a
d
,
 
.
i
n
t
 
X
p
a
d
.
1
]
)
)
,
 
(
a
p
a
d
,
 
.
i
n
l
 
(
E
.
2
.
1
,
 
3
2
,
 
.
i
n
l
 
X
p
a
d
.
2
)
)
,
 
(
h
c
h
k
,
 
.
i
n
r
 
(
6
,
 
[
.
r
e
f
 
a
c
h
k
,
 
.
i
n
t
 
X
c
h
k
.
1
]
)
)
,
 
(
a
c
h
k
,
 
.
i
n
l
 
(
E
.
2
.
1
,
 
3
2
,
 
.
i
n
l
 
X
c
h
k
.
2
)
)
,
 
(
h
c
o
l
,
 
.
i
n
r
 
(
6
,
 
[
.
r
e
f
 
a
c
o
l
,
 
.
i
n
t
 
X
c
o
l
.
1
]
)
)
,
 
(
a
o
u
t
,
 
.
i
n
l
 
(
c
L
,
 
1
,
 
.
i
n
r
 
(
.
i
n
l
 
g
g
)
)
)
]
)
 
[
1
,
 
2
,
 
3
,
 
4
,
 
5
,
 
6
,
 
7
,
 
8
,
 
9
,
 
1
0
,
 
1
1
,
 
1
2
,
 
1
3
,
 
1
4
,
 
1
5
,
 
1
6
,
 
1
7
,
 
1
8
,
 
1
9
,
 
2
0
,
 
2
1
,
 
2
2
,
 
2
3
,
 
2
4
,
 
2
5
,
 
2
6
,
 
2
7
,
 
2
8
,
 
2
9
,
 
0
]
 
(
b
y
 
d
e
c
i
d
e
)
 
r
f
l


 
 
 
 
 
 
e
x
a
c
t
 
W
.
i
r
e
t
 
(
v
 
:
=
 
1
)
 
h
x
 
h
b
 
h
r
 
(
f
u
n
 
t
 
h
t
 
h
W
 
=
>
 
⟨
⟨
1
,
 
(
X
t
r
i
e
d
,
 
X
s
e
c
r
e
t
,
 
b
k
s
m
,
 
s
t
s
m
,
 
m
x
s
r
,
 
X
t
e
x
t
,
 
X
s
u
m
,
 
X
p
a
d
,
 
X
c
h
k
,
 
X
c
o
l
,
 
g
g
)
,
 
r
f
l
,
 
⟨
c
o
n
g
r
A
r
g
 
P
r
o
d
.
f
s
t
 
h
p
o
s
t
,
 
c
o
n
g
r
A
r
g
 
P
r
o
d
.
s
n
d
 
h
p
o
s
t
⟩
,
 
b
y
 
r
w
 
[
h
t
]
;
 
e
x
a
c
t
 
h
P
9
,
 
h
D
9
⟩
,
 
h
S
_
3
5
.
F
 
h
t
⟩
)
 
h
S
_
3
5
.
2
.
2
 
d
L
_
o
p
e
n
_
1
4


 
 
 
 
·
 
b
y
_
c
a
s
e
s
 
c
_
3
9
 
:
 
t
_
3
3
.
1
 
=
 
3


 
 
 
 
 
 
·
 
o
b
t
a
i
n
 
r
f
l
 
:
 
n
m
_
3
4
 
=
 
"
j
a
v
a
/
l
a
n
g
/
I
l
l
e
g
a
l
S
t
a
t
e
E
x
c
e
p
t
i
o
n
"
 
:
=
 
p
x
_
3
4
.
1
.
t
r
a
n
s
 
(
b
y
 
r
w
 
[
←
 
h
t
_
3
3
,
 
c
_
3
9
]
;
 
r
f
l
)


 
 
 
 
 
 
 
 
r
e
f
i
n
e
 
v
x
_
c
a
t
c
h
 
h
o
w
n
 
[
⟨
0
,
 
9
,
 
1
2
,
 
4
1
⟩
]
 
⟨
0
,
 
9
,
 
1
5
,
 
2
6
⟩
 
[
⟨
0
,
 
9
,
 
1
8
,
 
1
3
⟩
]
 
(
b
y
 
r
w
 
[
h
t
a
b
]
;
 
r
f
l
)
 
(
L
i
s
t
.
f
o
r
a
l
l
_
m
e
m
_
c
o
n
s
.
m
p
r
 
⟨
O
r
.
i
n
r
 
⟨
(
b
y
 
d
e
c
i
d
e
)
,
 
"
j
a
v
a
/
l
a
n
g
/
I
l
l
e
g
a
l
A
r
g
u
m
e
n
t
E
x
c
e
p
t
i
o
n
"
,
 
w
_
0
,
 
h
X
.
1
.
2
.
1
⟩
,
 
f
u
n
 
_
 
h
9
 
=
>
 
a
b
s
u
r
d
 
h
9
 
L
i
s
t
.
n
o
t
_
m
e
m
_
n
i
l
⟩
)
 
(
b
y
 
d
e
c
i
d
e
)
 
(
b
y
 
d
e
c
i
d
e
)
 
w
_
1
 
(
v
a
_
N
w
.
u
s
e
 
r
f
l
 
(
h
X
.
2
.
1
 
(
.
c
a
s
t
a
b
l
e
 
"
j
a
v
a
/
l
a
n
g
/
I
l
l
e
g
a
l
S
t
a
t
e
E
x
c
e
p
t
i
o
n
"
 
"
j
a
v
a
/
l
a
n
g
/
I
l
l
e
g
a
l
S
t
a
t
e
E
x
c
e
p
t
i
o
n
"
)
 
(
b
y
 
d
e
c
i
d
e
 
+
k
e
r
n
e
l
)
)
)
 
h
c
e
_
3
4
 
h
c
v
_
3
4
 
h
c
l
_
3
4
 
?
_


 
 
 
 
 
 
 
 
r
e
f
i
n
e
 
l
v
_
a
s
t
o
r
e
_
n
 
(
l
v
'
 
:
=
 
[
(
3
,
 
.
r
e
f
 
q
_
3
4
)
,
 
(
0
,
 
.
r
e
f
 
h
)
,
 
(
1
,
 
.
i
n
t
 
v
c
)
,
 
(
2
,
 
.
r
e
f
 
a
o
u
t
)
]
)
 
h
x
 
h
b
 
d
L
_
o
p
e
n
_
1
5
 
r
f
l
 
h
l
 
(
b
y
 
d
e
c
i
d
e
)
 
r
f
l
 
(
f
u
n
 
l
s
_
4
0
 
h
l
_
4
0
 
=
>
 
?
_
)


 
 
 
 
 
 
 
 
c
l
e
a
r
 
h
l


 
 
 
 
 
 
 
 
r
e
f
i
n
e
 
l
v
_
i
c
o
n
s
t
 
(
v
 
:
=
 
2
)
 
h
x
 
h
b
 
d
L
_
o
p
e
n
_
1
6
 
(
b
y
 
d
e
c
i
d
e
)
 
?
_


 
 
 
 
 
 
 
 
r
e
f
i
n
e
 
v
x
_
r
e
t
 
?
_


 
 
 
 
 
 
 
 
h
a
v
e
 
h
p
o
s
t
 
:
 
(
(
2
,
 
(
X
t
r
i
e
d
,
 
X
s
e
c
r
e
t
,
 
b
k
s
m
,
 
s
t
s
m
,
 
m
x
s
r
,
 
X
t
e
x
t
,
 
X
s
u
m
,
 
X
p
a
d
,
 
X
c
h
k
,
 
X
c
o
l
,
 
g
g
)
)
 
:
 
I
n
t
3
2
 
×
 
(
g
R
o
w
 
×
 
g
R
o
w
 
×
 
(
N
a
t
 
→
 
I
n
t
3
2
)
 
×
 
(
N
a
t
 
→
 
I
n
t
3
2
)
 
×
 
(
N
a
t
 
→
 
I
n
t
3
2
)
 
×
 
g
R
o
w
 
×
 
g
R
o
w
 
×
 
g
R
o
w
 
×
 
g
R
o
w
 
×
 
g
R
o
w
 
×
 
(
N
a
t
 
→
 
I
n
t
6
4
)
)
)
 
=
 
F
_
L
_
o
p
e
n
_
e
 
r
v
 
p
e
r
m
 
p
l
a
i
n
 
X
t
r
i
e
d
 
X
i
d
e
n
t
 
X
s
e
c
r
e
t
 
X
e
0
 
X
e
1
 
b
k
s
m
 
s
t
s
m
 
m
x
s
r
 
X
t
e
x
t
 
X
s
u
m
 
X
p
a
d
 
X
c
h
k
 
X
c
o
l
 
g
g
 
v
c
 
:
=
 
(
s
h
o
w
 
F
_
L
_
o
p
e
n
_
e
 
r
v
 
p
e
r
m
 
p
l
a
i
n
 
X
t
r
i
e
d
 
X
i
d
e
n
t
 
X
s
e
c
r
e
t
 
X
e
0
 
X
e
1
 
b
k
s
m
 
s
t
s
m
 
m
x
s
r
 
X
t
e
x
t
 
X
s
u
m
 
X
p
a
d
 
X
c
h
k
 
X
c
o
l
 
g
g
 
v
c
 
=
 
(
(
2
,
 
(
X
t
r
i
e
d
,
 
X
s
e
c
r
e
t
,
 
b
k
s
m
,
 
s
t
s
m
,
 
m
x
s
r
,
 
X
t
e
x
t
,
 
X
s
u
m
,
 
X
p
a
d
,
 
X
c
h
k
,
 
X
c
o
l
,
 
g
g
)
)
 
:
 
I
n
t
3
2
 
×
 
(
g
R
o
w
 
×
 
g
R
o
w
 
×
 
(
N
a
t
 
→
 
I
n
t
3
2
)
 
×
 
(
N
a
t
 
→
 
I
n
t
3
2
)
 
×
 
(
N
a
t
 
→
 
I
n
t
3
2
)
 
×
 
g
R
o
w
 
×
 
g
R
o
w
 
×
 
g
R
o
w
 
×
 
g
R
o
w
 
×
 
g
R
o
w
 
×
 
(
N
a
t
 
→
 
I
n
t
6
4
)
)
)
 
f
r
o
m
 
(
g
L
e
t
_
e
q
 
h
t
_
3
3
 
(
(
i
f
_
n
e
g
 
c
_
3
6
)
.
t
r
a
n
s
 
(
(
i
f
_
n
e
g
 
c
_
3
7
)
.
t
r
a
n
s
 
(
(
i
f
_
p
o
s
 
c
_
3
9
)
.
t
r
a
n
s
 
r
f
l
)
)
)
)
)
.
s
y
m
m


 
 
 
 
 
 
 
 
h
a
v
e
 
h
P
9
 
:
=
 
h
P
_
3
5
.
s
u
b
 
(
w
s
'
 
:
=
 
[
(
h
,
 
.
i
n
r
 
(
1
1
,
 
[
.
r
e
f
 
h
l
k
,
 
.
r
e
f
 
h
v
,
 
.
r
e
f
 
h
t
,
 
.
r
e
f
 
h
c
o
l
,
 
.
r
e
f
 
h
a
n
s
,
 
.
i
n
t
 
c
f
o
r
,
 
.
i
n
t
 
c
b
a
c
k
,
 
.
i
n
t
 
f
i
l
t
]
)
)
,
 
(
h
l
k
,
 
.
i
n
r
 
(
3
,
 
[
.
r
e
f
 
h
v
,
 
.
r
e
f
 
h
t
,
 
.
r
e
f
 
h
p
a
d
,
 
.
r
e
f
 
h
c
h
k
]
)
)
,
 
(
h
v
,
 
.
i
n
r
 
(
1
0
,
 
[
.
i
n
t
 
(
n
I
 
r
v
)
,
 
.
r
e
f
 
h
u
s
e
r
,
 
.
r
e
f
 
h
o
w
n
e
r
,
 
.
r
e
f
 
h
t
r
i
e
d
,
 
.
r
e
f
 
h
i
d
e
n
t
,
 
.
r
e
f
 
h
t
a
p
e
,
 
.
i
n
t
 
g
i
v
e
n
,
 
.
r
e
f
 
h
s
e
c
r
e
t
,
 
.
r
e
f
 
q
e
n
t
,
 
.
r
e
f
 
h
n
o
e
,
 
.
i
n
t
 
p
e
r
m
,
 
.
i
n
t
 
p
l
a
i
n
]
)
)
,
 
(
h
t
r
i
e
d
,
 
.
i
n
r
 
(
6
,
 
[
.
r
e
f
 
a
t
r
i
e
d
,
 
.
i
n
t
 
X
t
r
i
e
d
.
1
]
)
)
,
 
(
a
t
r
i
e
d
,
 
.
i
n
l
 
(
E
.
2
.
1
,
 
1
2
7
,
 
.
i
n
l
 
X
t
r
i
e
d
.
2
)
)
,
 
(
h
i
d
e
n
t
,
 
.
i
n
r
 
(
6
,
 
[
.
r
e
f
 
a
i
d
e
n
t
,
 
.
i
n
t
 
X
i
d
e
n
t
.
1
]
)
)
,
 
(
a
i
d
e
n
t
,
 
.
i
n
l
 
(
E
.
2
.
1
,
 
3
2
,
 
.
i
n
l
 
X
i
d
e
n
t
.
2
)
)
,
 
(
h
s
e
c
r
e
t
,
 
.
i
n
r
 
(
6
,
 
[
.
r
e
f
 
a
s
e
c
r
e
t
,
 
.
i
n
t
 
X
s
e
c
r
e
t
.
1
]
)
)
,
 
(
a
s
e
c
r
e
t
,
 
.
i
n
l
 
(
E
.
2
.
1
,
 
3
2
,
 
.
i
n
l
 
X
s
e
c
r
e
t
.
2
)
)
,
 
(
q
e
n
t
,
 
.
i
n
l
 
(
E
.
2
.
2
.
1
,
 
2
,
 
.
i
n
r
 
(
.
i
n
r
 
(
.
i
n
r
 
(
.
i
n
r
 
(
g
E
n
t
 
[
h
e
0
,
 
h
e
1
]
)
)
)
)
)
)
,
 
(
h
e
0
,
 
.
i
n
r
 
(
6
,
 
[
.
r
e
f
 
a
e
0
,
 
.
i
n
t
 
X
e
0
.
1
]
)
)
,
 
(
a
e
0
,
 
.
i
n
l
 
(
E
.
2
.
1
,
 
4
8
,
 
.
i
n
l
 
X
e
0
.
2
)
)
,
 
(
h
e
1
,
 
.
i
n
r
 
(
6
,
 
[
.
r
e
f
 
a
e
1
,
 
.
i
n
t
 
X
e
1
.
1
]
)
)
,
 
(
a
e
1
,
 
.
i
n
l
 
(
E
.
2
.
1
,
 
4
8
,
 
.
i
n
l
 
X
e
1
.
2
)
)
,
 
(
h
t
,
 
.
i
n
r
 
(
9
,
 
[
.
r
e
f
 
h
s
m
,
 
.
r
e
f
 
h
g
r
,
 
.
r
e
f
 
h
s
r
,
 
.
r
e
f
 
h
b
l
,
 
.
r
e
f
 
h
t
e
x
t
,
 
.
r
e
f
 
h
s
u
m
]
)
)
,
 
(
h
s
m
,
 
.
i
n
r
 
(
7
,
 
[
.
r
e
f
 
q
b
s
m
,
 
.
r
e
f
 
q
s
s
m
]
)
)
,
 
(
q
b
s
m
,
 
.
i
n
l
 
(
E
.
2
.
1
,
 
1
6
,
 
.
i
n
l
 
b
k
s
m
)
)
,
 
(
q
s
s
m
,
 
.
i
n
l
 
(
E
.
2
.
1
,
 
4
,
 
.
i
n
l
 
s
t
s
m
)
)
,
 
(
h
s
r
,
 
.
i
n
r
 
(
8
,
 
[
.
r
e
f
 
q
m
s
r
]
)
)
,
 
(
q
m
s
r
,
 
.
i
n
l
 
(
E
.
2
.
1
,
 
2
5
6
,
 
.
i
n
l
 
m
x
s
r
)
)
,
 
(
h
t
e
x
t
,
 
.
i
n
r
 
(
6
,
 
[
.
r
e
f
 
a
t
e
x
t
,
 
.
i
n
t
 
X
t
e
x
t
.
1
]
)
)
,
 
(
a
t
e
x
t
,
 
.
i
n
l
 
(
E
.
2
.
1
,
 
4
3
2
,
 
.
i
n
l
 
X
t
e
x
t
.
2
)
)
,
 
(
h
s
u
m
,
 
.
i
n
r
 
(
6
,
 
[
.
r
e
f
 
a
s
u
m
,
 
.
i
n
t
 
X
s
u
m
.
1
]
)
)
,
 
(
a
s
u
m
,
 
.
i
n
l
 
(
E
.
2
.
1
,
 
3
2
,
 
.
i
n
l
 
X
s
u
m
.
2
)
)
,
 
(
h
p
a
d
,
 
.
i
n
r
 
(
6
,
 
[
.
r
e
f
 
a
p
a
d
,
 
.
i
n
t
 
X
p
a
d
.
1
]
)
)
,
 
(
a
p
a
d
,
 
.
i
n
l
 
(
E
.
2
.
1
,
 
3
2
,
 
.
i
n
l
 
X
p
a
d
.
2
)
)
,
 
(
h
c
h
k
,
 
.
i
n
r
 
(
6
,
 
[
.
r
e
f
 
a
c
h
k
,
 
.
i
n
t
 
X
c
h
k
.
1
]
)
)
,
 
(
a
c
h
k
,
 
.
i
n
l
 
(
E
.
2
.
1
,
 
3
2
,
 
.
i
n
l
 
X
c
h
k
.
2
)
)
,
 
(
h
c
o
l
,
 
.
i
n
r
 
(
6
,
 
[
.
r
e
f
 
a
c
o
l
,
 
.
i
n
t
 
X
c
o
l
.
1
]
)
)
,
 
(
a
o
u
t
,
 
.
i
n
l
 
(
c
L
,
 
1
,
 
.
i
n
r
 
(
.
i
n
l
 
g
g
)
)
)
]
)
 
[
1
,
 
2
,
 
3
,
 
4
,
 
5
,
 
6
,
 
7
,
 
8
,
 
9
,
 
1
0
,
 
1
1
,
 
1
2
,
 
1
3
,
 
1
4
,
 
1
5
,
 
1
6
,
 
1
7
,
 
1
8
,
 
1
9
,
 
2
0
,
 
2
1
,
 
2
2
,
 
2
3
,
 
2
4
,
 
2
5
,
 
2
6
,
 
2
7
,
 
2
8
,
 
2
9
,
 
0
]
 
r
f
l


 
 
 
 
 
 
 
 
h
a
v
e
 
h
D
9
 
:
=
 
h
D
_
3
5
.
s
u
b
 
(
w
s
'
 
:
=
 
[
(
h
,
 
.
i
n
r
 
(
1
1
,
 
[
.
r
e
f
 
h
l
k
,
 
.
r
e
f
 
h
v
,
 
.
r
e
f
 
h
t
,
 
.
r
e
f
 
h
c
o
l
,
 
.
r
e
f
 
h
a
n
s
,
 
.
i
n
t
 
c
f
o
r
,
 
.
i
n
t
 
c
b
a
c
k
,
 
.
i
n
t
 
f
i
l
t
]
)
)
,
 
(
h
l
k
,
 
.
i
n
r
 
(
3
,
 
[
.
r
e
f
 
h
v
,
 
.
r
e
f
 
h
t
,
 
.
r
e
f
 
h
p
a
d
,
 
.
r
e
f
 
h
c
h
k
]
)
)
,
 
(
h
v
,
 
.
i
n
r
 
(
1
0
,
 
[
.
i
n
t
 
(
n
I
 
r
v
)
,
 
.
r
e
f
 
h
u
s
e
r
,
 
.
r
e
f
 
h
o
w
n
e
r
,
 
.
r
e
f
 
h
t
r
i
e
d
,
 
.
r
e
f
 
h
i
d
e
n
t
,
 
.
r
e
f
 
h
t
a
p
e
,
 
.
i
n
t
 
g
i
v
e
n
,
 
.
r
e
f
 
h
s
e
c
r
e
t
,
 
.
r
e
f
 
q
e
n
t
,
 
.
r
e
f
 
h
n
o
e
,
 
.
i
n
t
 
p
e
r
m
,
 
.
i
n
t
 
p
l
a
i
n
]
)
)
,
 
(
h
t
r
i
e
d
,
 
.
i
n
r
 
(
6
,
 
[
.
r
e
f
 
a
t
r
i
e
d
,
 
.
i
n
t
 
X
t
r
i
e
d
.
1
]
)
)
,
 
(
a
t
r
i
e
d
,
 
.
i
n
l
 
(
E
.
2
.
1
,
 
1
2
7
,
 
.
i
n
l
 
X
t
r
i
e
d
.
2
)
)
,
 
(
h
i
d
e
n
t
,
 
.
i
n
r
 
(
6
,
 
[
.
r
e
f
 
a
i
d
e
n
t
,
 
.
i
n
t
 
X
i
d
e
n
t
.
1
]
)
)
,
 
(
a
i
d
e
n
t
,
 
.
i
n
l
 
(
E
.
2
.
1
,
 
3
2
,
 
.
i
n
l
 
X
i
d
e
n
t
.
2
)
)
,
 
(
h
s
e
c
r
e
t
,
 
.
i
n
r
 
(
6
,
 
[
.
r
e
f
 
a
s
e
c
r
e
t
,
 
.
i
n
t
 
X
s
e
c
r
e
t
.
1
]
)
)
,
 
(
a
s
e
c
r
e
t
,
 
.
i
n
l
 
(
E
.
2
.
1
,
 
3
2
,
 
.
i
n
l
 
X
s
e
c
r
e
t
.
2
)
)
,
 
(
q
e
n
t
,
 
.
i
n
l
 
(
E
.
2
.
2
.
1
,
 
2
,
 
.
i
n
r
 
(
.
i
n
r
 
(
.
i
n
r
 
(
.
i
n
r
 
(
g
E
n
t
 
[
h
e
0
,
 
h
e
1
]
)
)
)
)
)
)
,
 
(
h
e
0
,
 
.
i
n
r
 
(
6
,
 
[
.
r
e
f
 
a
e
0
,
 
.
i
n
t
 
X
e
0
.
1
]
)
)
,
 
(
a
e
0
,
 
.
i
n
l
 
(
E
.
2
.
1
,
 
4
8
,
 
.
i
n
l
 
X
e
0
.
2
)
)
,
 
(
h
e
1
,
 
.
i
n
r
 
(
6
,
 
[
.
r
e
f
 
a
e
1
,
 
.
i
n
t
 
X
e
1
.
1
]
)
)
,
 
(
a
e
1
,
 
.
i
n
l
 
(
E
.
2
.
1
,
 
4
8
,
 
.
i
n
l
 
X
e
1
.
2
)
)
,
 
(
h
t
,
 
.
i
n
r
 
(
9
,
 
[
.
r
e
f
 
h
s
m
,
 
.
r
e
f
 
h
g
r
,
 
.
r
e
f
 
h
s
r
,
 
.
r
e
f
 
h
b
l
,
 
.
r
e
f
 
h
t
e
x
t
,
 
.
r
e
f
 
h
s
u
m
]
)
)
,
 
(
h
s
m
,
 
.
i
n
r
 
(
7
,
 
[
.
r
e
f
 
q
b
s
m
,
 
.
r
e
f
 
q
s
s
m
]
)
)
,
 
(
q
b
s
m
,
 
.
i
n
l
 
(
E
.
2
.
1
,
 
1
6
,
 
.
i
n
l
 
b
k
s
m
)
)
,
 
(
q
s
s
m
,
 
.
i
n
l
 
(
E
.
2
.
1
,
 
4
,
 
.
i
n
l
 
s
t
s
m
)
)
,
 
(
h
s
r
,
 
.
i
n
r
 
(
8
,
 
[
.
r
e
f
 
q
m
s
r
]
)
)
,
 
(
q
m
s
r
,
 
.
i
n
l
 
(
E
.
2
.
1
,
 
2
5
6
,
 
.
i
n
l
 
m
x
s
r
)
)
,
 
(
h
t
e
x
t
,
 
.
i
n
r
 
(
6
,
 
[
.
r
e
f
 
a
t
e
x
t
,
 
.
i
n
t
 
X
t
e
x
t
.
1
]
)
)
,
 
(
a
t
e
x
t
,
 
.
i
n
l
 
(
E
.
2
.
1
,
 
4
3
2
,
 
.
i
n
l
 
X
t
e
x
t
.
2
)
)
,
 
(
h
s
u
m
,
 
.
i
n
r
 
(
6
,
 
[
.
r
e
f
 
a
s
u
m
,
 
.
i
n
t
 
X
s
u
m
.
1
]
)
)
,
 
(
a
s
u
m
,
 
.
i
n
l
 
(
E
.
2
.
1
,
 
3
2
,
 
.
i
n
l
 
X
s
u
m
.
2
)
)
,
 
(
h
p
a
d
,
 
.
i
n
r
 
(
6
,
 
[
.
r
e
f
 
a
p
a
d
,
 
.
i
n
t
 
X
p
a
d
.
1
]
)
)
,
 
(
a
p
a
d
,
 
.
i
n
l
 
(
E
.
2
.
1
,
 
3
2
,
 
.
i
n
l
 
X
p
a
d
.
2
)
)
,
 
(
h
c
h
k
,
 
.
i
n
r
 
(
6
,
 
[
.
r
e
f
 
a
c
h
k
,
 
.
i
n
t
 
X
c
h
k
.
1
]
)
)
,
 
(
a
c
h
k
,
 
.
i
n
l
 
(
E
.
2
.
1
,
 
3
2
,
 
.
i
n
l
 
X
c
h
k
.
2
)
)
,
 
(
h
c
o
l
,
 
.
i
n
r
 
(
6
,
 
[
.
r
e
f
 
a
c
o
l
,
 
.
i
n
t
 
X
c
o
l
.
1
]
)
)
,
 
(
a
o
u
t
,
 
.
i
n
l
 
(
c
L
,
 
1
,
 
.
i
n
r
 
(
.
i
n
l
 
g
g
)
)
)
]
)
 
[
1
,
 
2
,
 
3
,
 
4
,
 
5
,
 
6
,
 
7
,
 
8
,
 
9
,
 
1
0
,
 
1
1
,
 
1
2
,
 
1
3
,
 
1
4
,
 
1
5
,
 
1
6
,
 
1
7
,
 
1
8
,
 
1
9
,
 
2
0
,
 
2
1
,
 
2
2
,
 
2
3
,
 
2
4
,
 
2
5
,
 
2
6
,
 
2
7
,
 
2
8
,
 
2
9
,
 
0
]
 
(
b
y
 
d
e
c
i
d
e
)
 
r
f
l


 
 
 
 
 
 
 
 
e
x
a
c
t
 
W
.
i
r
e
t
 
(
v
 
:
=
 
2
)
 
h
x
 
h
b
 
h
r
 
(
f
u
n
 
t
 
h
t
 
h
W
 
=
>
 
⟨
⟨
2
,
 
(
X
t
r
i
e
d
,
 
X
s
e
c
r
e
t
,
 
b
k
s
m
,
 
s
t
s
m
,
 
m
x
s
r
,
 
X
t
e
x
t
,
 
X
s
u
m
,
 
X
p
a
d
,
 
X
c
h
k
,
 
X
c
o
l
,
 
g
g
)
,
 
r
f
l
,
 
⟨
c
o
n
g
r
A
r
g
 
P
r
o
d
.
f
s
t
 
h
p
o
s
t
,
 
c
o
n
g
r
A
r
g
 
P
r
o
d
.
s
n
d
 
h
p
o
s
t
⟩
,
 
b
y
 
r
w
 
[
h
t
]
;
 
e
x
a
c
t
 
h
P
9
,
 
h
D
9
⟩
,
 
h
S
_
3
5
.
F
 
h
t
⟩
)
 
h
S
_
3
5
.
2
.
2
 
d
L
_
o
p
e
n
_
1
7


 
 
 
 
 
 
·
 
h
a
v
e
 
c
_
4
1
 
:
 
t
_
3
3
.
1
 
=
 
5
 
:
=
 
b
y
 
h
a
v
e
 
q
9
 
:
=
 
L
c
_
X
1
0
_
o
p
e
n
_
e
 
_
 
_
 
_
 
_
 
_
 
_
 
_
 
_
 
_
 
_
 
_
 
_
 
_
 
_
 
_
 
_
 
_
;
 
r
w
 
[
←
 
h
t
_
3
3
]
 
a
t
 
q
9
;
 
o
m
e
g
a


 
 
 
 
 
 
 
 
o
b
t
a
i
n
 
r
f
l
 
:
 
n
m
_
3
4
 
=
 
"
j
a
v
a
/
l
a
n
g
/
U
n
s
u
p
p
o
r
t
e
d
O
p
e
r
a
t
i
o
n
E
x
c
e
p
t
i
o
n
"
 
:
=
 
p
x
_
3
4
.
1
.
t
r
a
n
s
 
(
b
y
 
r
w
 
[
←
 
h
t
_
3
3
,
 
c
_
4
1
]
;
 
r
f
l
)


 
 
 
 
 
 
 
 
r
e
f
i
n
e
 
v
x
_
c
a
t
c
h
 
h
o
w
n
 
[
⟨
0
,
 
9
,
 
1
2
,
 
4
1
⟩
,
 
⟨
0
,
 
9
,
 
1
5
,
 
2
6
⟩
]
 
⟨
0
,
 
9
,
 
1
8
,
 
1
3
⟩
 
[
]
 
(
b
y
 
r
w
 
[
h
t
a
b
]
;
 
r
f
l
)
 
(
L
i
s
t
.
f
o
r
a
l
l
_
m
e
m
_
c
o
n
s
.
m
p
r
 
⟨
O
r
.
i
n
r
 
⟨
(
b
y
 
d
e
c
i
d
e
)
,
 
"
j
a
v
a
/
l
a
n
g
/
I
l
l
e
g
a
l
A
r
g
u
m
e
n
t
E
x
c
e
p
t
i
o
n
"
,
 
w
_
0
,
 
h
X
.
1
.
2
.
2
.
1
⟩
,
 
L
i
s
t
.
f
o
r
a
l
l
_
m
e
m
_
c
o
n
s
.
m
p
r
 
⟨
O
r
.
i
n
r
 
⟨
(
b
y
 
d
e
c
i
d
e
)
,
 
"
j
a
v
a
/
l
a
n
g
/
I
l
l
e
g
a
l
S
t
a
t
e
E
x
c
e
p
t
i
o
n
"
,
 
w
_
1
,
 
h
X
.
1
.
2
.
2
.
2
⟩
,
 
f
u
n
 
_
 
h
9
 
=
>
 
a
b
s
u
r
d
 
h
9
 
L
i
s
t
.
n
o
t
_
m
e
m
_
n
i
l
⟩
⟩
)
 
(
b
y
 
d
e
c
i
d
e
)
 
(
b
y
 
d
e
c
i
d
e
)
 
w
_
2
 
(
v
a
_
N
w
.
u
s
e
 
r
f
l
 
(
h
X
.
2
.
1
 
(
.
c
a
s
t
a
b
l
e
 
"
j
a
v
a
/
l
a
n
g
/
U
n
s
u
p
p
o
r
t
e
d
O
p
e
r
a
t
i
o
n
E
x
c
e
p
t
i
o
n
"
 
"
j
a
v
a
/
l
a
n
g
/
U
n
s
u
p
p
o
r
t
e
d
O
p
e
r
a
t
i
o
n
E
x
c
e
p
t
i
o
n
"
)
 
(
b
y
 
d
e
c
i
d
e
 
+
k
e
r
n
e
l
)
)
)
 
h
c
e
_
3
4
 
h
c
v
_
3
4
 
h
c
l
_
3
4
 
?
_


 
 
 
 
 
 
 
 
r
e
f
i
n
e
 
l
v
_
a
s
t
o
r
e
_
n
 
(
l
v
'
 
:
=
 
[
(
3
,
 
.
r
e
f
 
q
_
3
4
)
,
 
(
0
,
 
.
r
e
f
 
h
)
,
 
(
1
,
 
.
i
n
t
 
v
c
)
,
 
(
2
,
 
.
r
e
f
 
a
o
u
t
)
]
)
 
h
x
 
h
b
 
d
L
_
o
p
e
n
_
1
8
 
r
f
l
 
h
l
 
(
b
y
 
d
e
c
i
d
e
)
 
r
f
l
 
(
f
u
n
 
l
s
_
4
2
 
h
l
_
4
2
 
=
>
 
?
_
)


 
 
 
 
 
 
 
 
c
l
e
a
r
 
h
l


 
 
 
 
 
 
 
 
r
e
f
i
n
e
 
l
v
_
i
c
o
n
s
t
 
(
v
 
:
=
 
3
)
 
h
x
 
h
b
 
d
L
_
o
p
e
n
_
1
9
 
(
b
y
 
d
e
c
i
d
e
)
 
?
_


 
 
 
 
 
 
 
 
r
e
f
i
n
e
 
v
x
_
r
e
t
 
?
_


 
 
 
 
 
 
 
 
h
a
v
e
 
h
p
o
s
t
 
:
 
(
(
3
,
 
(
X
t
r
i
e
d
,
 
X
s
e
c
r
e
t
,
 
b
k
s
m
,
 
s
t
s
m
,
 
m
x
s
r
,
 
X
t
e
x
t
,
 
X
s
u
m
,
 
X
p
a
d
,
 
X
c
h
k
,
 
X
c
o
l
,
 
g
g
)
)
 
:
 
I
n
t
3
2
 
×
 
(
g
R
o
w
 
×
 
g
R
o
w
 
×
 
(
N
a
t
 
→
 
I
n
t
3
2
)
 
×
 
(
N
a
t
 
→
 
I
n
t
3
2
)
 
×
 
(
N
a
t
 
→
 
I
n
t
3
2
)
 
×
 
g
R
o
w
 
×
 
g
R
o
w
 
×
 
g
R
o
w
 
×
 
g
R
o
w
 
×
 
g
R
o
w
 
×
 
(
N
a
t
 
→
 
I
n
t
6
4
)
)
)
 
=
 
F
_
L
_
o
p
e
n
_
e
 
r
v
 
p
e
r
m
 
p
l
a
i
n
 
X
t
r
i
e
d
 
X
i
d
e
n
t
 
X
s
e
c
r
e
t
 
X
e
0
 
X
e
1
 
b
k
s
m
 
s
t
s
m
 
m
x
s
r
 
X
t
e
x
t
 
X
s
u
m
 
X
p
a
d
 
X
c
h
k
 
X
c
o
l
 
g
g
 
v
c
 
:
=
 
(
s
h
o
w
 
F
_
L
_
o
p
e
n
_
e
 
r
v
 
p
e
r
m
 
p
l
a
i
n
 
X
t
r
i
e
d
 
X
i
d
e
n
t
 
X
s
e
c
r
e
t
 
X
e
0
 
X
e
1
 
b
k
s
m
 
s
t
s
m
 
m
x
s
r
 
X
t
e
x
t
 
X
s
u
m
 
X
p
a
d
 
X
c
h
k
 
X
c
o
l
 
g
g
 
v
c
 
=
 
(
(
3
,
 
(
X
t
r
i
e
d
,
 
X
s
e
c
r
e
t
,
 
b
k
s
m
,
 
s
t
s
m
,
 
m
x
s
r
,
 
X
t
e
x
t
,
 
X
s
u
m
,
 
X
p
a
d
,
 
X
c
h
k
,
 
X
c
o
l
,
 
g
g
)
)
 
:
 
I
n
t
3
2
 
×
 
(
g
R
o
w
 
×
 
g
R
o
w
 
×
 
(
N
a
t
 
→
 
I
n
t
3
2
)
 
×
 
(
N
a
t
 
→
 
I
n
t
3
2
)
 
×
 
(
N
a
t
 
→
 
I
n
t
3
2
)
 
×
 
g
R
o
w
 
×
 
g
R
o
w
 
×
 
g
R
o
w
 
×
 
g
R
o
w
 
×
 
g
R
o
w
 
×
 
(
N
a
t
 
→
 
I
n
t
6
4
)
)
)
 
f
r
o
m
 
(
g
L
e
t
_
e
q
 
h
t
_
3
3
 
(
(
i
f
_
n
e
g
 
c
_
3
6
)
.
t
r
a
n
s
 
(
(
i
f
_
n
e
g
 
c
_
3
7
)
.
t
r
a
n
s
 
(
(
i
f
_
n
e
g
 
c
_
3
9
)
.
t
r
a
n
s
 
r
f
l
)
)
)
)
)
.
s
y
m
m


 
 
 
 
 
 
 
 
h
a
v
e
 
h
P
9
 
:
=
 
h
P
_
3
5
.
s
u
b
 
(
w
s
'
 
:
=
 
[
(
h
,
 
.
i
n
r
 
(
1
1
,
 
[
.
r
e
f
 
h
l
k
,
 
.
r
e
f
 
h
v
,
 
.
r
e
f
 
h
t
,
 
.
r
e
f
 
h
c
o
l
,
 
.
r
e
f
 
h
a
n
s
,
 
.
i
n
t
 
c
f
o
r
,
 
.
i
n
t
 
c
b
a
c
k
,
 
.
i
n
t
 
f
i
l
t
]
)
)
,
 
(
h
l
k
,
 
.
i
n
r
 
(
3
,
 
[
.
r
e
f
 
h
v
,
 
.
r
e
f
 
h
t
,
 
.
r
e
f
 
h
p
a
d
,
 
.
r
e
f
 
h
c
h
k
]
)
)
,
 
(
h
v
,
 
.
i
n
r
 
(
1
0
,
 
[
.
i
n
t
 
(
n
I
 
r
v
)
,
 
.
r
e
f
 
h
u
s
e
r
,
 
.
r
e
f
 
h
o
w
n
e
r
,
 
.
r
e
f
 
h
t
r
i
e
d
,
 
.
r
e
f
 
h
i
d
e
n
t
,
 
.
r
e
f
 
h
t
a
p
e
,
 
.
i
n
t
 
g
i
v
e
n
,
 
.
r
e
f
 
h
s
e
c
r
e
t
,
 
.
r
e
f
 
q
e
n
t
,
 
.
r
e
f
 
h
n
o
e
,
 
.
i
n
t
 
p
e
r
m
,
 
.
i
n
t
 
p
l
a
i
n
]
)
)
,
 
(
h
t
r
i
e
d
,
 
.
i
n
r
 
(
6
,
 
[
.
r
e
f
 
a
t
r
i
e
d
,
 
.
i
n
t
 
X
t
r
i
e
d
.
1
]
)
)
,
 
(
a
t
r
i
e
d
,
 
.
i
n
l
 
(
E
.
2
.
1
,
 
1
2
7
,
 
.
i
n
l
 
X
t
r
i
e
d
.
2
)
)
,
 
(
h
i
d
e
n
t
,
 
.
i
n
r
 
(
6
,
 
[
.
r
e
f
 
a
i
d
e
n
t
,
 
.
i
n
t
 
X
i
d
e
n
t
.
1
]
)
)
,
 
(
a
i
d
e
n
t
,
 
.
i
n
l
 
(
E
.
2
.
1
,
 
3
2
,
 
.
i
n
l
 
X
i
d
e
n
t
.
2
)
)
,
 
(
h
s
e
c
r
e
t
,
 
.
i
n
r
 
(
6
,
 
[
.
r
e
f
 
a
s
e
c
r
e
t
,
 
.
i
n
t
 
X
s
e
c
r
e
t
.
1
]
)
)
,
 
(
a
s
e
c
r
e
t
,
 
.
i
n
l
 
(
E
.
2
.
1
,
 
3
2
,
 
.
i
n
l
 
X
s
e
c
r
e
t
.
2
)
)
,
 
(
q
e
n
t
,
 
.
i
n
l
 
(
E
.
2
.
2
.
1
,
 
2
,
 
.
i
n
r
 
(
.
i
n
r
 
(
.
i
n
r
 
(
.
i
n
r
 
(
g
E
n
t
 
[
h
e
0
,
 
h
e
1
]
)
)
)
)
)
)
,
 
(
h
e
0
,
 
.
i
n
r
 
(
6
,
 
[
.
r
e
f
 
a
e
0
,
 
.
i
n
t
 
X
e
0
.
1
]
)
)
,
 
(
a
e
0
,
 
.
i
n
l
 
(
E
.
2
.
1
,
 
4
8
,
 
.
i
n
l
 
X
e
0
.
2
)
)
,
 
(
h
e
1
,
 
.
i
n
r
 
(
6
,
 
[
.
r
e
f
 
a
e
1
,
 
.
i
n
t
 
X
e
1
.
1
]
)
)
,
 
(
a
e
1
,
 
.
i
n
l
 
(
E
.
2
.
1
,
 
4
8
,
 
.
i
n
l
 
X
e
1
.
2
)
)
,
 
(
h
t
,
 
.
i
n
r
 
(
9
,
 
[
.
r
e
f
 
h
s
m
,
 
.
r
e
f
 
h
g
r
,
 
.
r
e
f
 
h
s
r
,
 
.
r
e
f
 
h
b
l
,
 
.
r
e
f
 
h
t
e
x
t
,
 
.
r
e
f
 
h
s
u
m
]
)
)
,
 
(
h
s
m
,
 
.
i
n
r
 
(
7
,
 
[
.
r
e
f
 
q
b
s
m
,
 
.
r
e
f
 
q
s
s
m
]
)
)
,
 
(
q
b
s
m
,
 
.
i
n
l
 
(
E
.
2
.
1
,
 
1
6
,
 
.
i
n
l
 
b
k
s
m
)
)
,
 
(
q
s
s
m
,
 
.
i
n
l
 
(
E
.
2
.
1
,
 
4
,
 
.
i
n
l
 
s
t
s
m
)
)
,
 
(
h
s
r
,
 
.
i
n
r
 
(
8
,
 
[
.
r
e
f
 
q
m
s
r
]
)
)
,
 
(
q
m
s
r
,
 
.
i
n
l
 
(
E
.
2
.
1
,
 
2
5
6
,
 
.
i
n
l
 
m
x
s
r
)
)
,
 
(
h
t
e
x
t
,
 
.
i
n
r
 
(
6
,
 
[
.
r
e
f
 
a
t
e
x
t
,
 
.
i
n
t
 
X
t
e
x
t
.
1
]
)
)
,
 
(
a
t
e
x
t
,
 
.
i
n
l
 
(
E
.
2
.
1
,
 
4
3
2
,
 
.
i
n
l
 
X
t
e
x
t
.
2
)
)
,
 
(
h
s
u
m
,
 
.
i
n
r
 
(
6
,
 
[
.
r
e
f
 
a
s
u
m
,
 
.
i
n
t
 
X
s
u
m
.
1
]
)
)
,
 
(
a
s
u
m
,
 
.
i
n
l
 
(
E
.
2
.
1
,
 
3
2
,
 
.
i
n
l
 
X
s
u
m
.
2
)
)
,
 
(
h
p
a
d
,
 
.
i
n
r
 
(
6
,
 
[
.
r
e
f
 
a
p
a
d
,
 
.
i
n
t
 
X
p
a
d
.
1
]
)
)
,
 
(
a
p
a
d
,
 
.
i
n
l
 
(
E
.
2
.
1
,
 
3
2
,
 
.
i
n
l
 
X
p
a
d
.
2
)
)
,
 
(
h
c
h
k
,
 
.
i
n
r
 
(
6
,
 
[
.
r
e
f
 
a
c
h
k
,
 
.
i
n
t
 
X
c
h
k
.
1
]
)
)
,
 
(
a
c
h
k
,
 
.
i
n
l
 
(
E
.
2
.
1
,
 
3
2
,
 
.
i
n
l
 
X
c
h
k
.
2
)
)
,
 
(
h
c
o
l
,
 
.
i
n
r
 
(
6
,
 
[
.
r
e
f
 
a
c
o
l
,
 
.
i
n
t
 
X
c
o
l
.
1
]
)
)
,
 
(
a
o
u
t
,
 
.
i
n
l
 
(
c
L
,
 
1
,
 
.
i
n
r
 
(
.
i
n
l
 
g
g
)
)
)
]
)
 
[
1
,
 
2
,
 
3
,
 
4
,
 
5
,
 
6
,
 
7
,
 
8
,
 
9
,
 
1
0
,
 
1
1
,
 
1
2
,
 
1
3
,
 
1
4
,
 
1
5
,
 
1
6
,
 
1
7
,
 
1
8
,
 
1
9
,
 
2
0
,
 
2
1
,
 
2
2
,
 
2
3
,
 
2
4
,
 
2
5
,
 
2
6
,
 
2
7
,
 
2
8
,
 
2
9
,
 
0
]
 
r
f
l


 
 
 
 
 
 
 
 
h
a
v
e
 
h
D
9
 
:
=
 
h
D
_
3
5
.
s
u
b
 
(
w
s
'
 
:
=
 
[
(
h
,
 
.
i
n
r
 
(
1
1
,
 
[
.
r
e
f
 
h
l
k
,
 
.
r
e
f
 
h
v
,
 
.
r
e
f
 
h
t
,
 
.
r
e
f
 
h
c
o
l
,
 
.
r
e
f
 
h
a
n
s
,
 
.
i
n
t
 
c
f
o
r
,
 
.
i
n
t
 
c
b
a
c
k
,
 
.
i
n
t
 
f
i
l
t
]
)
)
,
 
(
h
l
k
,
 
.
i
n
r
 
(
3
,
 
[
.
r
e
f
 
h
v
,
 
.
r
e
f
 
h
t
,
 
.
r
e
f
 
h
p
a
d
,
 
.
r
e
f
 
h
c
h
k
]
)
)
,
 
(
h
v
,
 
.
i
n
r
 
(
1
0
,
 
[
.
i
n
t
 
(
n
I
 
r
v
)
,
 
.
r
e
f
 
h
u
s
e
r
,
 
.
r
e
f
 
h
o
w
n
e
r
,
 
.
r
e
f
 
h
t
r
i
e
d
,
 
.
r
e
f
 
h
i
d
e
n
t
,
 
.
r
e
f
 
h
t
a
p
e
,
 
.
i
n
t
 
g
i
v
e
n
,
 
.
r
e
f
 
h
s
e
c
r
e
t
,
 
.
r
e
f
 
q
e
n
t
,
 
.
r
e
f
 
h
n
o
e
,
 
.
i
n
t
 
p
e
r
m
,
 
.
i
n
t
 
p
l
a
i
n
]
)
)
,
 
(
h
t
r
i
e
d
,
 
.
i
n
r
 
(
6
,
 
[
.
r
e
f
 
a
t
r
i
e
d
,
 
.
i
n
t
 
X
t
r
i
e
d
.
1
]
)
)
,
 
(
a
t
r
i
e
d
,
 
.
i
n
l
 
(
E
.
2
.
1
,
 
1
2
7
,
 
.
i
n
l
 
X
t
r
i
e
d
.
2
)
)
,
 
(
h
i
d
e
n
t
,
 
.
i
n
r
 
(
6
,
 
[
.
r
e
f
 
a
i
d
e
n
t
,
 
.
i
n
t
 
X
i
d
e
n
t
.
1
]
)
)
,
 
(
a
i
d
e
n
t
,
 
.
i
n
l
 
(
E
.
2
.
1
,
 
3
2
,
 
.
i
n
l
 
X
i
d
e
n
t
.
2
)
)
,
 
(
h
s
e
c
r
e
t
,
 
.
i
n
r
 
(
6
,
 
[
.
r
e
f
 
a
s
e
c
r
e
t
,
 
.
i
n
t
 
X
s
e
c
r
e
t
.
1
]
)
)
,
 
(
a
s
e
c
r
e
t
,
 
.
i
n
l
 
(
E
.
2
.
1
,
 
3
2
,
 
.
i
n
l
 
X
s
e
c
r
e
t
.
2
)
)
,
 
(
q
e
n
t
,
 
.
i
n
l
 
(
E
.
2
.
2
.
1
,
 
2
,
 
.
i
n
r
 
(
.
i
n
r
 
(
.
i
n
r
 
(
.
i
n
r
 
(
g
E
n
t
 
[
h
e
0
,
 
h
e
1
]
)
)
)
)
)
)
,
 
(
h
e
0
,
 
.
i
n
r
 
(
6
,
 
[
.
r
e
f
 
a
e
0
,
 
.
i
n
t
 
X
e
0
.
1
]
)
)
,
 
(
a
e
0
,
 
.
i
n
l
 
(
E
.
2
.
1
,
 
4
8
,
 
.
i
n
l
 
X
e
0
.
2
)
)
,
 
(
h
e
1
,
 
.
i
n
r
 
(
6
,
 
[
.
r
e
f
 
a
e
1
,
 
.
i
n
t
 
X
e
1
.
1
]
)
)
,
 
(
a
e
1
,
 
.
i
n
l
 
(
E
.
2
.
1
,
 
4
8
,
 
.
i
n
l
 
X
e
1
.
2
)
)
,
 
(
h
t
,
 
.
i
n
r
 
(
9
,
 
[
.
r
e
f
 
h
s
m
,
 
.
r
e
f
 
h
g
r
,
 
.
r
e
f
 
h
s
r
,
 
.
r
e
f
 
h
b
l
,
 
.
r
e
f
 
h
t
e
x
t
,
 
.
r
e
f
 
h
s
u
m
]
)
)
,
 
(
h
s
m
,
 
.
i
n
r
 
(
7
,
 
[
.
r
e
f
 
q
b
s
m
,
 
.
r
e
f
 
q
s
s
m
]
)
)
,
 
(
q
b
s
m
,
 
.
i
n
l
 
(
E
.
2
.
1
,
 
1
6
,
 
.
i
n
l
 
b
k
s
m
)
)
,
 
(
q
s
s
m
,
 
.
i
n
l
 
(
E
.
2
.
1
,
 
4
,
 
.
i
n
l
 
s
t
s
m
)
)
,
 
(
h
s
r
,
 
.
i
n
r
 
(
8
,
 
[
.
r
e
f
 
q
m
s
r
]
)
)
,
 
(
q
m
s
r
,
 
.
i
n
l
 
(
E
.
2
.
1
,
 
2
5
6
,
 
.
i
n
l
 
m
x
s
r
)
)
,
 
(
h
t
e
x
t
,
 
.
i
n
r
 
(
6
,
 
[
.
r
e
f
 
a
t
e
x
t
,
 
.
i
n
t
 
X
t
e
x
t
.
1
]
)
)
,
 
(
a
t
e
x
t
,
 
.
i
n
l
 
(
E
.
2
.
1
,
 
4
3
2
,
 
.
i
n
l
 
X
t
e
x
t
.
2
)
)
,
 
(
h
s
u
m
,
 
.
i
n
r
 
(
6
,
 
[
.
r
e
f
 
a
s
u
m
,
 
.
i
n
t
 
X
s
u
m
.
1
]
)
)
,
 
(
a
s
u
m
,
 
.
i
n
l
 
(
E
.
2
.
1
,
 
3
2
,
 
.
i
n
l
 
X
s
u
m
.
2
)
)
,
 
(
h
p
a
d
,
 
.
i
n
r
 
(
6
,
 
[
.
r
e
f
 
a
p
a
d
,
 
.
i
n
t
 
X
p
a
d
.
1
]
)
)
,
 
(
a
p
a
d
,
 
.
i
n
l
 
(
E
.
2
.
1
,
 
3
2
,
 
.
i
n
l
 
X
p
a
d
.
2
)
)
,
 
(
h
c
h
k
,
 
.
i
n
r
 
(
6
,
 
[
.
r
e
f
 
a
c
h
k
,
 
.
i
n
t
 
X
c
h
k
.
1
]
)
)
,
 
(
a
c
h
k
,
 
.
i
n
l
 
(
E
.
2
.
1
,
 
3
2
,
 
.
i
n
l
 
X
c
h
k
.
2
)
)
,
 
(
h
c
o
l
,
 
.
i
n
r
 
(
6
,
 
[
.
r
e
f
 
a
c
o
l
,
 
.
i
n
t
 
X
c
o
l
.
1
]
)
)
,
 
(
a
o
u
t
,
 
.
i
n
l
 
(
c
L
,
 
1
,
 
.
i
n
r
 
(
.
i
n
l
 
g
g
)
)
)
]
)
 
[
1
,
 
2
,
 
3
,
 
4
,
 
5
,
 
6
,
 
7
,
 
8
,
 
9
,
 
1
0
,
 
1
1
,
 
1
2
,
 
1
3
,
 
1
4
,
 
1
5
,
 
1
6
,
 
1
7
,
 
1
8
,
 
1
9
,
 
2
0
,
 
2
1
,
 
2
2
,
 
2
3
,
 
2
4
,
 
2
5
,
 
2
6
,
 
2
7
,
 
2
8
,
 
2
9
,
 
0
]
 
(
b
y
 
d
e
c
i
d
e
)
 
r
f
l


 
 
 
 
 
 
 
 
e
x
a
c
t
 
W
.
i
r
e
t
 
(
v
 
:
=
 
3
)
 
h
x
 
h
b
 
h
r
 
(
f
u
n
 
t
 
h
t
 
h
W
 
=
>
 
⟨
⟨
3
,
 
(
X
t
r
i
e
d
,
 
X
s
e
c
r
e
t
,
 
b
k
s
m
,
 
s
t
s
m
,
 
m
x
s
r
,
 
X
t
e
x
t
,
 
X
s
u
m
,
 
X
p
a
d
,
 
X
c
h
k
,
 
X
c
o
l
,
 
g
g
)
,
 
r
f
l
,
 
⟨
c
o
n
g
r
A
r
g
 
P
r
o
d
.
f
s
t
 
h
p
o
s
t
,
 
c
o
n
g
r
A
r
g
 
P
r
o
d
.
s
n
d
 
h
p
o
s
t
⟩
,
 
b
y
 
r
w
 
[
h
t
]
;
 
e
x
a
c
t
 
h
P
9
,
 
h
D
9
⟩
,
 
h
S
_
3
5
.
F
 
h
t
⟩
)
 
h
S
_
3
5
.
2
.
2
 
d
L
_
o
p
e
n
_
2
0


 
 
·
 
h
a
v
e
 
e
_
4
4
 
:
 
t
_
3
3
 
=
 
(
(
0
,
 
(
r
_
3
1
,
 
u
_
3
1
)
)
 
:
 
N
a
t
 
×
 
(
I
n
t
3
2
 
×
 
(
g
R
o
w
 
×
 
g
R
o
w
 
×
 
(
N
a
t
 
→
 
I
n
t
3
2
)
 
×
 
(
N
a
t
 
→
 
I
n
t
3
2
)
 
×
 
(
N
a
t
 
→
 
I
n
t
3
2
)
 
×
 
g
R
o
w
 
×
 
g
R
o
w
 
×
 
g
R
o
w
 
×
 
g
R
o
w
 
×
 
g
R
o
w
)
)
)
 
:
=
 
h
t
_
3
3
.
t
r
a
n
s
 
h
u
_
3
1
.
s
y
m
m


 
 
 
 
h
a
v
e
 
c
_
4
3
 
:
 
t
_
3
3
.
1
 
=
 
0
 
:
=
 
b
y
 
r
w
 
[
e
_
4
4
]


 
 
 
 
o
b
t
a
i
n
 
r
f
l
 
:
 
r
_
3
1
 
=
 
t
_
3
3
.
2
.
1
 
:
=
 
(
c
o
n
g
r
A
r
g
 
(
f
u
n
 
z
 
:
 
N
a
t
 
×
 
(
I
n
t
3
2
 
×
 
(
g
R
o
w
 
×
 
g
R
o
w
 
×
 
(
N
a
t
 
→
 
I
n
t
3
2
)
 
×
 
(
N
a
t
 
→
 
I
n
t
3
2
)
 
×
 
(
N
a
t
 
→
 
I
n
t
3
2
)
 
×
 
g
R
o
w
 
×
 
g
R
o
w
 
×
 
g
R
o
w
 
×
 
g
R
o
w
 
×
 
g
R
o
w
)
)
 
=
>
 
z
.
2
.
1
)
 
e
_
4
4
)
.
s
y
m
m


 
 
 
 
o
b
t
a
i
n
 
r
f
l
 
:
 
u
_
3
1
 
=
 
t
_
3
3
.
2
.
2
 
:
=
 
(
c
o
n
g
r
A
r
g
 
(
f
u
n
 
z
 
:
 
N
a
t
 
×
 
(
I
n
t
3
2
 
×
 
(
g
R
o
w
 
×
 
g
R
o
w
 
×
 
(
N
a
t
 
→
 
I
n
t
3
2
)
 
×
 
(
N
a
t
 
→
 
I
n
t
3
2
)
 
×
 
(
N
a
t
 
→
 
I
n
t
3
2
)
 
×
 
g
R
o
w
 
×
 
g
R
o
w
 
×
 
g
R
o
w
 
×
 
g
R
o
w
 
×
 
g
R
o
w
)
)
 
=
>
 
z
.
2
.
2
)
 
e
_
4
4
)
.
s
y
m
m


 
 
 
 
r
e
p
l
a
c
e
 
h
P
_
3
2
 
:
 
v
a
_
P
 
E
.
1
 
v
w
C
l
 
[
(
a
o
u
t
,
 
.
i
n
l
 
(
c
L
,
 
1
,
 
.
i
n
r
 
(
.
i
n
l
 
g
g
)
)
)
,
 
(
h
,
 
.
i
n
r
 
(
1
1
,
 
[
.
r
e
f
 
h
l
k
,
 
.
r
e
f
 
h
v
,
 
.
r
e
f
 
h
t
,
 
.
r
e
f
 
h
c
o
l
,
 
.
r
e
f
 
h
a
n
s
,
 
.
i
n
t
 
c
f
o
r
,
 
.
i
n
t
 
c
b
a
c
k
,
 
.
i
n
t
 
f
i
l
t
]
)
)
,
 
(
h
l
k
,
 
.
i
n
r
 
(
3
,
 
[
.
r
e
f
 
h
v
,
 
.
r
e
f
 
h
t
,
 
.
r
e
f
 
h
p
a
d
,
 
.
r
e
f
 
h
c
h
k
]
)
)
,
 
(
h
v
,
 
.
i
n
r
 
(
1
0
,
 
[
.
i
n
t
 
(
n
I
 
r
v
)
,
 
.
r
e
f
 
h
u
s
e
r
,
 
.
r
e
f
 
h
o
w
n
e
r
,
 
.
r
e
f
 
h
t
r
i
e
d
,
 
.
r
e
f
 
h
i
d
e
n
t
,
 
.
r
e
f
 
h
t
a
p
e
,
 
.
i
n
t
 
g
i
v
e
n
,
 
.
r
e
f
 
h
s
e
c
r
e
t
,
 
.
r
e
f
 
q
e
n
t
,
 
.
r
e
f
 
h
n
o
e
,
 
.
i
n
t
 
p
e
r
m
,
 
.
i
n
t
 
p
l
a
i
n
]
)
)
,
 
(
h
t
r
i
e
d
,
 
.
i
n
r
 
(
6
,
 
[
.
r
e
f
 
a
t
r
i
e
d
,
 
.
i
n
t
 
t
_
3
3
.
2
.
2
.
1
.
1
]
)
)
,
 
(
a
t
r
i
e
d
,
 
.
i
n
l
 
(
E
.
2
.
1
,
 
1
2
7
,
 
.
i
n
l
 
t
_
3
3
.
2
.
2
.
1
.
2
)
)
,
 
(
h
i
d
e
n
t
,
 
.
i
n
r
 
(
6
,
 
[
.
r
e
f
 
a
i
d
e
n
t
,
 
.
i
n
t
 
X
i
d
e
n
t
.
1
]
)
)
,
 
(
a
i
d
e
n
t
,
 
.
i
n
l
 
(
E
.
2
.
1
,
 
3
2
,
 
.
i
n
l
 
X
i
d
e
n
t
.
2
)
)
,
 
(
h
s
e
c
r
e
t
,
 
.
i
n
r
 
(
6
,
 
[
.
r
e
f
 
a
s
e
c
r
e
t
,
 
.
i
n
t
 
t
_
3
3
.
2
.
2
.
2
.
1
.
1
]
)
)
,
 
(
a
s
e
c
r
e
t
,
 
.
i
n
l
 
(
E
.
2
.
1
,
 
3
2
,
 
.
i
n
l
 
t
_
3
3
.
2
.
2
.
2
.
1
.
2
)
)
,
 
(
q
e
n
t
,
 
.
i
n
l
 
(
E
.
2
.
2
.
1
,
 
2
,
 
.
i
n
r
 
(
.
i
n
r
 
(
.
i
n
r
 
(
.
i
n
r
 
(
g
E
n
t
 
[
h
e
0
,
 
h
e
1
]
)
)
)
)
)
)
,
 
(
h
e
0
,
 
.
i
n
r
 
(
6
,
 
[
.
r
e
f
 
a
e
0
,
 
.
i
n
t
 
X
e
0
.
1
]
)
)
,
 
(
a
e
0
,
 
.
i
n
l
 
(
E
.
2
.
1
,
 
4
8
,
 
.
i
n
l
 
X
e
0
.
2
)
)
,
 
(
h
e
1
,
 
.
i
n
r
 
(
6
,
 
[
.
r
e
f
 
a
e
1
,
 
.
i
n
t
 
X
e
1
.
1
]
)
)
,
 
(
a
e
1
,
 
.
i
n
l
 
(
E
.
2
.
1
,
 
4
8
,
 
.
i
n
l
 
X
e
1
.
2
)
)
,
 
(
h
t
,
 
.
i
n
r
 
(
9
,
 
[
.
r
e
f
 
h
s
m
,
 
.
r
e
f
 
h
g
r
,
 
.
r
e
f
 
h
s
r
,
 
.
r
e
f
 
h
b
l
,
 
.
r
e
f
 
h
t
e
x
t
,
 
.
r
e
f
 
h
s
u
m
]
)
)
,
 
(
h
s
m
,
 
.
i
n
r
 
(
7
,
 
[
.
r
e
f
 
q
b
s
m
,
 
.
r
e
f
 
q
s
s
m
]
)
)
,
 
(
q
b
s
m
,
 
.
i
n
l
 
(
E
.
2
.
1
,
 
1
6
,
 
.
i
n
l
 
t
_
3
3
.
2
.
2
.
2
.
2
.
1
)
)
,
 
(
q
s
s
m
,
 
.
i
n
l
 
(
E
.
2
.
1
,
 
4
,
 
.
i
n
l
 
t
_
3
3
.
2
.
2
.
2
.
2
.
2
.
1
)
)
,
 
(
h
s
r
,
 
.
i
n
r
 
(
8
,
 
[
.
r
e
f
 
q
m
s
r
]
)
)
,
 
(
q
m
s
r
,
 
.
i
n
l
 
(
E
.
2
.
1
,
 
2
5
6
,
 
.
i
n
l
 
t
_
3
3
.
2
.
2
.
2
.
2
.
2
.
2
.
1
)
)
,
 
(
h
t
e
x
t
,
 
.
i
n
r
 
(
6
,
 
[
.
r
e
f
 
a
t
e
x
t
,
 
.
i
n
t
 
t
_
3
3
.
2
.
2
.
2
.
2
.
2
.
2
.
2
.
1
.
1
]
)
)
,
 
(
a
t
e
x
t
,
 
.
i
n
l
 
(
E
.
2
.
1
,
 
4
3
2
,
 
.
i
n
l
 
t
_
3
3
.
2
.
2
.
2
.
2
.
2
.
2
.
2
.
1
.
2
)
)
,
 
(
h
s
u
m
,
 
.
i
n
r
 
(
6
,
 
[
.
r
e
f
 
a
s
u
m
,
 
.
i
n
t
 
t
_
3
3
.
2
.
2
.
2
.
2
.
2
.
2
.
2
.
2
.
1
.
1
]
)
)
,
 
(
a
s
u
m
,
 
.
i
n
l
 
(
E
.
2
.
1
,
 
3
2
,
 
.
i
n
l
 
t
_
3
3
.
2
.
2
.
2
.
2
.
2
.
2
.
2
.
2
.
1
.
2
)
)
,
 
(
h
p
a
d
,
 
.
i
n
r
 
(
6
,
 
[
.
r
e
f
 
a
p
a
d
,
 
.
i
n
t
 
t
_
3
3
.
2
.
2
.
2
.
2
.
2
.
2
.
2
.
2
.
2
.
1
.
1
]
)
)
,
 
(
a
p
a
d
,
 
.
i
n
l
 
(
E
.
2
.
1
,
 
3
2
,
 
.
i
n
l
 
t
_
3
3
.
2
.
2
.
2
.
2
.
2
.
2
.
2
.
2
.
2
.
1
.
2
)
)
,
 
(
h
c
h
k
,
 
.
i
n
r
 
(
6
,
 
[
.
r
e
f
 
a
c
h
k
,
 
.
i
n
t
 
t
_
3
3
.
2
.
2
.
2
.
2
.
2
.
2
.
2
.
2
.
2
.
2
.
1
.
1
]
)
)
,
 
(
a
c
h
k
,
 
.
i
n
l
 
(
E
.
2
.
1
,
 
3
2
,
 
.
i
n
l
 
t
_
3
3
.
2
.
2
.
2
.
2
.
2
.
2
.
2
.
2
.
2
.
2
.
1
.
2
)
)
,
 
(
h
c
o
l
,
 
.
i
n
r
 
(
6
,
 
[
.
r
e
f
 
a
c
o
l
,
 
.
i
n
t
 
t
_
3
3
.
2
.
2
.
2
.
2
.
2
.
2
.
2
.
2
.
2
.
2
.
2
.
1
]
)
)
]
 
H
_
3
2
 
:
=
 
h
P
_
3
2


 
 
 
 
r
e
p
l
a
c
e
 
h
D
_
3
2
 
:
 
v
a
_
D
 
A
 
[
(
a
o
u
t
,
 
.
i
n
l
 
(
c
L
,
 
1
,
 
.
i
n
r
 
(
.
i
n
l
 
g
g
)
)
)
,
 
(
h
,
 
.
i
n
r
 
(
1
1
,
 
[
.
r
e
f
 
h
l
k
,
 
.
r
e
f
 
h
v
,
 
.
r
e
f
 
h
t
,
 
.
r
e
f
 
h
c
o
l
,
 
.
r
e
f
 
h
a
n
s
,
 
.
i
n
t
 
c
f
o
r
,
 
.
i
n
t
 
c
b
a
c
k
,
 
.
i
n
t
 
f
i
l
t
]
)
)
,
 
(
h
l
k
,
 
.
i
n
r
 
(
3
,
 
[
.
r
e
f
 
h
v
,
 
.
r
e
f
 
h
t
,
 
.
r
e
f
 
h
p
a
d
,
 
.
r
e
f
 
h
c
h
k
]
)
)
,
 
(
h
v
,
 
.
i
n
r
 
(
1
0
,
 
[
.
i
n
t
 
(
n
I
 
r
v
)
,
 
.
r
e
f
 
h
u
s
e
r
,
 
.
r
e
f
 
h
o
w
n
e
r
,
 
.
r
e
f
 
h
t
r
i
e
d
,
 
.
r
e
f
 
h
i
d
e
n
t
,
 
.
r
e
f
 
h
t
a
p
e
,
 
.
i
n
t
 
g
i
v
e
n
,
 
.
r
e
f
 
h
s
e
c
r
e
t
,
 
.
r
e
f
 
q
e
n
t
,
 
.
r
e
f
 
h
n
o
e
,
 
.
i
n
t
 
p
e
r
m
,
 
.
i
n
t
 
p
l
a
i
n
]
)
)
,
 
(
h
t
r
i
e
d
,
 
.
i
n
r
 
(
6
,
 
[
.
r
e
f
 
a
t
r
i
e
d
,
 
.
i
n
t
 
t
_
3
3
.
2
.
2
.
1
.
1
]
)
)
,
 
(
a
t
r
i
e
d
,
 
.
i
n
l
 
(
E
.
2
.
1
,
 
1
2
7
,
 
.
i
n
l
 
t
_
3
3
.
2
.
2
.
1
.
2
)
)
,
 
(
h
i
d
e
n
t
,
 
.
i
n
r
 
(
6
,
 
[
.
r
e
f
 
a
i
d
e
n
t
,
 
.
i
n
t
 
X
i
d
e
n
t
.
1
]
)
)
,
 
(
a
i
d
e
n
t
,
 
.
i
n
l
 
(
E
.
2
.
1
,
 
3
2
,
 
.
i
n
l
 
X
i
d
e
n
t
.
2
)
)
,
 
(
h
s
e
c
r
e
t
,
 
.
i
n
r
 
(
6
,
 
[
.
r
e
f
 
a
s
e
c
r
e
t
,
 
.
i
n
t
 
t
_
3
3
.
2
.
2
.
2
.
1
.
1
]
)
)
,
 
(
a
s
e
c
r
e
t
,
 
.
i
n
l
 
(
E
.
2
.
1
,
 
3
2
,
 
.
i
n
l
 
t
_
3
3
.
2
.
2
.
2
.
1
.
2
)
)
,
 
(
q
e
n
t
,
 
.
i
n
l
 
(
E
.
2
.
2
.
1
,
 
2
,
 
.
i
n
r
 
(
.
i
n
r
 
(
.
i
n
r
 
(
.
i
n
r
 
(
g
E
n
t
 
[
h
e
0
,
 
h
e
1
]
)
)
)
)
)
)
,
 
(
h
e
0
,
 
.
i
n
r
 
(
6
,
 
[
.
r
e
f
 
a
e
0
,
 
.
i
n
t
 
X
e
0
.
1
]
)
)
,
 
(
a
e
0
,
 
.
i
n
l
 
(
E
.
2
.
1
,
 
4
8
,
 
.
i
n
l
 
X
e
0
.
2
)
)
,
 
(
h
e
1
,
 
.
i
n
r
 
(
6
,
 
[
.
r
e
f
 
a
e
1
,
 
.
i
n
t
 
X
e
1
.
1
]
)
)
,
 
(
a
e
1
,
 
.
i
n
l
 
(
E
.
2
.
1
,
 
4
8
,
 
.
i
n
l
 
X
e
1
.
2
)
)
,
 
(
h
t
,
 
.
i
n
r
 
(
9
,
 
[
.
r
e
f
 
h
s
m
,
 
.
r
e
f
 
h
g
r
,
 
.
r
e
f
 
h
s
r
,
 
.
r
e
f
 
h
b
l
,
 
.
r
e
f
 
h
t
e
x
t
,
 
.
r
e
f
 
h
s
u
m
]
)
)
,
 
(
h
s
m
,
 
.
i
n
r
 
(
7
,
 
[
.
r
e
f
 
q
b
s
m
,
 
.
r
e
f
 
q
s
s
m
]
)
)
,
 
(
q
b
s
m
,
 
.
i
n
l
 
(
E
.
2
.
1
,
 
1
6
,
 
.
i
n
l
 
t
_
3
3
.
2
.
2
.
2
.
2
.
1
)
)
,
 
(
q
s
s
m
,
 
.
i
n
l
 
(
E
.
2
.
1
,
 
4
,
 
.
i
n
l
 
t
_
3
3
.
2
.
2
.
2
.
2
.
2
.
1
)
)
,
 
(
h
s
r
,
 
.
i
n
r
 
(
8
,
 
[
.
r
e
f
 
q
m
s
r
]
)
)
,
 
(
q
m
s
r
,
 
.
i
n
l
 
(
E
.
2
.
1
,
 
2
5
6
,
 
.
i
n
l
 
t
_
3
3
.
2
.
2
.
2
.
2
.
2
.
2
.
1
)
)
,
 
(
h
t
e
x
t
,
 
.
i
n
r
 
(
6
,
 
[
.
r
e
f
 
a
t
e
x
t
,
 
.
i
n
t
 
t
_
3
3
.
2
.
2
.
2
.
2
.
2
.
2
.
2
.
1
.
1
]
)
)
,
 
(
a
t
e
x
t
,
 
.
i
n
l
 
(
E
.
2
.
1
,
 
4
3
2
,
 
.
i
n
l
 
t
_
3
3
.
2
.
2
.
2
.
2
.
2
.
2
.
2
.
1
.
2
)
)
,
 
(
h
s
u
m
,
 
.
i
n
r
 
(
6
,
 
[
.
r
e
f
 
a
s
u
m
,
 
.
i
n
t
 
t
_
3
3
.
2
.
2
.
2
.
2
.
2
.
2
.
2
.
2
.
1
.
1
]
)
)
,
 
(
a
s
u
m
,
 
.
i
n
l
 
(
E
.
2
.
1
,
 
3
2
,
 
.
i
n
l
 
t
_
3
3
.
2
.
2
.
2
.
2
.
2
.
2
.
2
.
2
.
1
.
2
)
)
,
 
(
h
p
a
d
,
 
.
i
n
r
 
(
6
,
 
[
.
r
e
f
 
a
p
a
d
,
 
.
i
n
t
 
t
_
3
3
.
2
.
2
.
2
.
2
.
2
.
2
.
2
.
2
.
2
.
1
.
1
]
)
)
,
 
(
a
p
a
d
,
 
.
i
n
l
 
(
E
.
2
.
1
,
 
3
2
,
 
.
i
n
l
 
t
_
3
3
.
2
.
2
.
2
.
2
.
2
.
2
.
2
.
2
.
2
.
1
.
2
)
)
,
 
(
h
c
h
k
,
 
.
i
n
r
 
(
6
,
 
[
.
r
e
f
 
a
c
h
k
,
 
.
i
n
t
 
t
_
3
3
.
2
.
2
.
2
.
2
.
2
.
2
.
2
.
2
.
2
.
2
.
1
.
1
]
)
)
,
 
(
a
c
h
k
,
 
.
i
n
l
 
(
E
.
2
.
1
,
 
3
2
,
 
.
i
n
l
 
t
_
3
3
.
2
.
2
.
2
.
2
.
2
.
2
.
2
.
2
.
2
.
2
.
1
.
2
)
)
,
 
(
h
c
o
l
,
 
.
i
n
r
 
(
6
,
 
[
.
r
e
f
 
a
c
o
l
,
 
.
i
n
t
 
t
_
3
3
.
2
.
2
.
2
.
2
.
2
.
2
.
2
.
2
.
2
.
2
.
2
.
1
]
)
)
]
 
:
=
 
h
D
_
3
2


 
 
 
 
c
l
e
a
r
 
h
P
 
h
D
 
h
S


 
 
 
 
r
e
f
i
n
e
 
l
v
_
i
2
l
 
(
v
 
:
=
 
t
_
3
3
.
2
.
1
.
t
o
I
n
t
6
4
)
 
h
x
 
h
b
 
d
L
_
o
p
e
n
_
7
 
r
f
l
 
?
_


 
 
 
 
r
e
f
i
n
e
 
v
a
_
l
a
s
t
 
h
x
 
h
b
 
h
L
 
h
P
_
3
2
 
h
D
_
3
2
 
h
S
_
3
2
 
0
 
2
 
r
f
l
 
r
f
l
 
(
b
y
 
d
e
c
i
d
e
)
 
d
L
_
o
p
e
n
_
8
 
(
f
u
n
 
H
_
4
5
 
l
o
c
s
_
4
5
 
h
P
_
4
5
 
h
D
_
4
5
 
h
S
_
4
5
 
=
>
 
?
_
)


 
 
 
 
r
e
p
l
a
c
e
 
h
P
_
4
5
 
:
 
v
a
_
P
 
E
.
1
 
v
w
C
l
 
[
(
a
o
u
t
,
 
.
i
n
l
 
(
c
L
,
 
1
,
 
.
i
n
r
 
(
.
i
n
l
 
(
v
p
_
u
p
d
L
 
g
g
 
(
0
 
:
 
I
n
t
3
2
)
.
t
o
N
a
t
C
l
a
m
p
N
e
g
 
(
t
_
3
3
.
2
.
1
.
t
o
I
n
t
6
4
)
)
)
)
)
,
 
(
h
,
 
.
i
n
r
 
(
1
1
,
 
[
.
r
e
f
 
h
l
k
,
 
.
r
e
f
 
h
v
,
 
.
r
e
f
 
h
t
,
 
.
r
e
f
 
h
c
o
l
,
 
.
r
e
f
 
h
a
n
s
,
 
.
i
n
t
 
c
f
o
r
,
 
.
i
n
t
 
c
b
a
c
k
,
 
.
i
n
t
 
f
i
l
t
]
)
)
,
 
(
h
l
k
,
 
.
i
n
r
 
(
3
,
 
[
.
r
e
f
 
h
v
,
 
.
r
e
f
 
h
t
,
 
.
r
e
f
 
h
p
a
d
,
 
.
r
e
f
 
h
c
h
k
]
)
)
,
 
(
h
v
,
 
.
i
n
r
 
(
1
0
,
 
[
.
i
n
t
 
(
n
I
 
r
v
)
,
 
.
r
e
f
 
h
u
s
e
r
,
 
.
r
e
f
 
h
o
w
n
e
r
,
 
.
r
e
f
 
h
t
r
i
e
d
,
 
.
r
e
f
 
h
i
d
e
n
t
,
 
.
r
e
f
 
h
t
a
p
e
,
 
.
i
n
t
 
g
i
v
e
n
,
 
.
r
e
f
 
h
s
e
c
r
e
t
,
 
.
r
e
f
 
q
e
n
t
,
 
.
r
e
f
 
h
n
o
e
,
 
.
i
n
t
 
p
e
r
m
,
 
.
i
n
t
 
p
l
a
i
n
]
)
)
,
 
(
h
t
r
i
e
d
,
 
.
i
n
r
 
(
6
,
 
[
.
r
e
f
 
a
t
r
i
e
d
,
 
.
i
n
t
 
t
_
3
3
.
2
.
2
.
1
.
1
]
)
)
,
 
(
a
t
r
i
e
d
,
 
.
i
n
l
 
(
E
.
2
.
1
,
 
1
2
7
,
 
.
i
n
l
 
t
_
3
3
.
2
.
2
.
1
.
2
)
)
,
 
(
h
i
d
e
n
t
,
 
.
i
n
r
 
(
6
,
 
[
.
r
e
f
 
a
i
d
e
n
t
,
 
.
i
n
t
 
X
i
d
e
n
t
.
1
]
)
)
,
 
(
a
i
d
e
n
t
,
 
.
i
n
l
 
(
E
.
2
.
1
,
 
3
2
,
 
.
i
n
l
 
X
i
d
e
n
t
.
2
)
)
,
 
(
h
s
e
c
r
e
t
,
 
.
i
n
r
 
(
6
,
 
[
.
r
e
f
 
a
s
e
c
r
e
t
,
 
.
i
n
t
 
t
_
3
3
.
2
.
2
.
2
.
1
.
1
]
)
)
,
 
(
a
s
e
c
r
e
t
,
 
.
i
n
l
 
(
E
.
2
.
1
,
 
3
2
,
 
.
i
n
l
 
t
_
3
3
.
2
.
2
.
2
.
1
.
2
)
)
,
 
(
q
e
n
t
,
 
.
i
n
l
 
(
E
.
2
.
2
.
1
,
 
2
,
 
.
i
n
r
 
(
.
i
n
r
 
(
.
i
n
r
 
(
.
i
n
r
 
(
g
E
n
t
 
[
h
e
0
,
 
h
e
1
]
)
)
)
)
)
)
,
 
(
h
e
0
,
 
.
i
n
r
 
(
6
,
 
[
.
r
e
f
 
a
e
0
,
 
.
i
n
t
 
X
e
0
.
1
]
)
)
,
 
(
a
e
0
,
 
.
i
n
l
 
(
E
.
2
.
1
,
 
4
8
,
 
.
i
n
l
 
X
e
0
.
2
)
)
,
 
(
h
e
1
,
 
.
i
n
r
 
(
6
,
 
[
.
r
e
f
 
a
e
1
,
 
.
i
n
t
 
X
e
1
.
1
]
)
)
,
 
(
a
e
1
,
 
.
i
n
l
 
(
E
.
2
.
1
,
 
4
8
,
 
.
i
n
l
 
X
e
1
.
2
)
)
,
 
(
h
t
,
 
.
i
n
r
 
(
9
,
 
[
.
r
e
f
 
h
s
m
,
 
.
r
e
f
 
h
g
r
,
 
.
r
e
f
 
h
s
r
,
 
.
r
e
f
 
h
b
l
,
 
.
r
e
f
 
h
t
e
x
t
,
 
.
r
e
f
 
h
s
u
m
]
)
)
,
 
(
h
s
m
,
 
.
i
n
r
 
(
7
,
 
[
.
r
e
f
 
q
b
s
m
,
 
.
r
e
f
 
q
s
s
m
]
)
)
,
 
(
q
b
s
m
,
 
.
i
n
l
 
(
E
.
2
.
1
,
 
1
6
,
 
.
i
n
l
 
t
_
3
3
.
2
.
2
.
2
.
2
.
1
)
)
,
 
(
q
s
s
m
,
 
.
i
n
l
 
(
E
.
2
.
1
,
 
4
,
 
.
i
n
l
 
t
_
3
3
.
2
.
2
.
2
.
2
.
2
.
1
)
)
,
 
(
h
s
r
,
 
.
i
n
r
 
(
8
,
 
[
.
r
e
f
 
q
m
s
r
]
)
)
,
 
(
q
m
s
r
,
 
.
i
n
l
 
(
E
.
2
.
1
,
 
2
5
6
,
 
.
i
n
l
 
t
_
3
3
.
2
.
2
.
2
.
2
.
2
.
2
.
1
)
)
,
 
(
h
t
e
x
t
,
 
.
i
n
r
 
(
6
,
 
[
.
r
e
f
 
a
t
e
x
t
,
 
.
i
n
t
 
t
_
3
3
.
2
.
2
.
2
.
2
.
2
.
2
.
2
.
1
.
1
]
)
)
,
 
(
a
t
e
x
t
,
 
.
i
n
l
 
(
E
.
2
.
1
,
 
4
3
2
,
 
.
i
n
l
 
t
_
3
3
.
2
.
2
.
2
.
2
.
2
.
2
.
2
.
1
.
2
)
)
,
 
(
h
s
u
m
,
 
.
i
n
r
 
(
6
,
 
[
.
r
e
f
 
a
s
u
m
,
 
.
i
n
t
 
t
_
3
3
.
2
.
2
.
2
.
2
.
2
.
2
.
2
.
2
.
1
.
1
]
)
)
,
 
(
a
s
u
m
,
 
.
i
n
l
 
(
E
.
2
.
1
,
 
3
2
,
 
.
i
n
l
 
t
_
3
3
.
2
.
2
.
2
.
2
.
2
.
2
.
2
.
2
.
1
.
2
)
)
,
 
(
h
p
a
d
,
 
.
i
n
r
 
(
6
,
 
[
.
r
e
f
 
a
p
a
d
,
 
.
i
n
t
 
t
_
3
3
.
2
.
2
.
2
.
2
.
2
.
2
.
2
.
2
.
2
.
1
.
1
]
)
)
,
 
(
a
p
a
d
,
 
.
i
n
l
 
(
E
.
2
.
1
,
 
3
2
,
 
.
i
n
l
 
t
_
3
3
.
2
.
2
.
2
.
2
.
2
.
2
.
2
.
2
.
2
.
1
.
2
)
)
,
 
(
h
c
h
k
,
 
.
i
n
r
 
(
6
,
 
[
.
r
e
f
 
a
c
h
k
,
 
.
i
n
t
 
t
_
3
3
.
2
.
2
.
2
.
2
.
2
.
2
.
2
.
2
.
2
.
2
.
1
.
1
]
)
)
,
 
(
a
c
h
k
,
 
.
i
n
l
 
(
E
.
2
.
1
,
 
3
2
,
 
.
i
n
l
 
t
_
3
3
.
2
.
2
.
2
.
2
.
2
.
2
.
2
.
2
.
2
.
2
.
1
.
2
)
)
,
 
(
h
c
o
l
,
 
.
i
n
r
 
(
6
,
 
[
.
r
e
f
 
a
c
o
l
,
 
.
i
n
t
 
t
_
3
3
.
2
.
2
.
2
.
2
.
2
.
2
.
2
.
2
.
2
.
2
.
2
.
1
]
)
)
]
 
H
_
4
5
 
:
=
 
h
P
_
4
5


 
 
 
 
r
e
p
l
a
c
e
 
h
D
_
4
5
 
:
 
v
a
_
D
 
A
 
[
(
a
o
u
t
,
 
.
i
n
l
 
(
c
L
,
 
1
,
 
.
i
n
r
 
(
.
i
n
l
 
(
v
p
_
u
p
d
L
 
g
g
 
(
0
 
:
 
I
n
t
3
2
)
.
t
o
N
a
t
C
l
a
m
p
N
e
g
 
(
t
_
3
3
.
2
.
1
.
t
o
I
n
t
6
4
)
)
)
)
)
,
 
(
h
,
 
.
i
n
r
 
(
1
1
,
 
[
.
r
e
f
 
h
l
k
,
 
.
r
e
f
 
h
v
,
 
.
r
e
f
 
h
t
,
 
.
r
e
f
 
h
c
o
l
,
 
.
r
e
f
 
h
a
n
s
,
 
.
i
n
t
 
c
f
o
r
,
 
.
i
n
t
 
c
b
a
c
k
,
 
.
i
n
t
 
f
i
l
t
]
)
)
,
 
(
h
l
k
,
 
.
i
n
r
 
(
3
,
 
[
.
r
e
f
 
h
v
,
 
.
r
e
f
 
h
t
,
 
.
r
e
f
 
h
p
a
d
,
 
.
r
e
f
 
h
c
h
k
]
)
)
,
 
(
h
v
,
 
.
i
n
r
 
(
1
0
,
 
[
.
i
n
t
 
(
n
I
 
r
v
)
,
 
.
r
e
f
 
h
u
s
e
r
,
 
.
r
e
f
 
h
o
w
n
e
r
,
 
.
r
e
f
 
h
t
r
i
e
d
,
 
.
r
e
f
 
h
i
d
e
n
t
,
 
.
r
e
f
 
h
t
a
p
e
,
 
.
i
n
t
 
g
i
v
e
n
,
 
.
r
e
f
 
h
s
e
c
r
e
t
,
 
.
r
e
f
 
q
e
n
t
,
 
.
r
e
f
 
h
n
o
e
,
 
.
i
n
t
 
p
e
r
m
,
 
.
i
n
t
 
p
l
a
i
n
]
)
)
,
 
(
h
t
r
i
e
d
,
 
.
i
n
r
 
(
6
,
 
[
.
r
e
f
 
a
t
r
i
e
d
,
 
.
i
n
t
 
t
_
3
3
.
2
.
2
.
1
.
1
]
)
)
,
 
(
a
t
r
i
e
d
,
 
.
i
n
l
 
(
E
.
2
.
1
,
 
1
2
7
,
 
.
i
n
l
 
t
_
3
3
.
2
.
2
.
1
.
2
)
)
,
 
(
h
i
d
e
n
t
,
 
.
i
n
r
 
(
6
,
 
[
.
r
e
f
 
a
i
d
e
n
t
,
 
.
i
n
t
 
X
i
d
e
n
t
.
1
]
)
)
,
 
(
a
i
d
e
n
t
,
 
.
i
n
l
 
(
E
.
2
.
1
,
 
3
2
,
 
.
i
n
l
 
X
i
d
e
n
t
.
2
)
)
,
 
(
h
s
e
c
r
e
t
,
 
.
i
n
r
 
(
6
,
 
[
.
r
e
f
 
a
s
e
c
r
e
t
,
 
.
i
n
t
 
t
_
3
3
.
2
.
2
.
2
.
1
.
1
]
)
)
,
 
(
a
s
e
c
r
e
t
,
 
.
i
n
l
 
(
E
.
2
.
1
,
 
3
2
,
 
.
i
n
l
 
t
_
3
3
.
2
.
2
.
2
.
1
.
2
)
)
,
 
(
q
e
n
t
,
 
.
i
n
l
 
(
E
.
2
.
2
.
1
,
 
2
,
 
.
i
n
r
 
(
.
i
n
r
 
(
.
i
n
r
 
(
.
i
n
r
 
(
g
E
n
t
 
[
h
e
0
,
 
h
e
1
]
)
)
)
)
)
)
,
 
(
h
e
0
,
 
.
i
n
r
 
(
6
,
 
[
.
r
e
f
 
a
e
0
,
 
.
i
n
t
 
X
e
0
.
1
]
)
)
,
 
(
a
e
0
,
 
.
i
n
l
 
(
E
.
2
.
1
,
 
4
8
,
 
.
i
n
l
 
X
e
0
.
2
)
)
,
 
(
h
e
1
,
 
.
i
n
r
 
(
6
,
 
[
.
r
e
f
 
a
e
1
,
 
.
i
n
t
 
X
e
1
.
1
]
)
)
,
 
(
a
e
1
,
 
.
i
n
l
 
(
E
.
2
.
1
,
 
4
8
,
 
.
i
n
l
 
X
e
1
.
2
)
)
,
 
(
h
t
,
 
.
i
n
r
 
(
9
,
 
[
.
r
e
f
 
h
s
m
,
 
.
r
e
f
 
h
g
r
,
 
.
r
e
f
 
h
s
r
,
 
.
r
e
f
 
h
b
l
,
 
.
r
e
f
 
h
t
e
x
t
,
 
.
r
e
f
 
h
s
u
m
]
)
)
,
 
(
h
s
m
,
 
.
i
n
r
 
(
7
,
 
[
.
r
e
f
 
q
b
s
m
,
 
.
r
e
f
 
q
s
s
m
]
)
)
,
 
(
q
b
s
m
,
 
.
i
n
l
 
(
E
.
2
.
1
,
 
1
6
,
 
.
i
n
l
 
t
_
3
3
.
2
.
2
.
2
.
2
.
1
)
)
,
 
(
q
s
s
m
,
 
.
i
n
l
 
(
E
.
2
.
1
,
 
4
,
 
.
i
n
l
 
t
_
3
3
.
2
.
2
.
2
.
2
.
2
.
1
)
)
,
 
(
h
s
r
,
 
.
i
n
r
 
(
8
,
 
[
.
r
e
f
 
q
m
s
r
]
)
)
,
 
(
q
m
s
r
,
 
.
i
n
l
 
(
E
.
2
.
1
,
 
2
5
6
,
 
.
i
n
l
 
t
_
3
3
.
2
.
2
.
2
.
2
.
2
.
2
.
1
)
)
,
 
(
h
t
e
x
t
,
 
.
i
n
r
 
(
6
,
 
[
.
r
e
f
 
a
t
e
x
t
,
 
.
i
n
t
 
t
_
3
3
.
2
.
2
.
2
.
2
.
2
.
2
.
2
.
1
.
1
]
)
)
,
 
(
a
t
e
x
t
,
 
.
i
n
l
 
(
E
.
2
.
1
,
 
4
3
2
,
 
.
i
n
l
 
t
_
3
3
.
2
.
2
.
2
.
2
.
2
.
2
.
2
.
1
.
2
)
)
,
 
(
h
s
u
m
,
 
.
i
n
r
 
(
6
,
 
[
.
r
e
f
 
a
s
u
m
,
 
.
i
n
t
 
t
_
3
3
.
2
.
2
.
2
.
2
.
2
.
2
.
2
.
2
.
1
.
1
]
)
)
,
 
(
a
s
u
m
,
 
.
i
n
l
 
(
E
.
2
.
1
,
 
3
2
,
 
.
i
n
l
 
t
_
3
3
.
2
.
2
.
2
.
2
.
2
.
2
.
2
.
2
.
1
.
2
)
)
,
 
(
h
p
a
d
,
 
.
i
n
r
 
(
6
,
 
[
.
r
e
f
 
a
p
a
d
,
 
.
i
n
t
 
t
_
3
3
.
2
.
2
.
2
.
2
.
2
.
2
.
2
.
2
.
2
.
1
.
1
]
)
)
,
 
(
a
p
a
d
,
 
.
i
n
l
 
(
E
.
2
.
1
,
 
3
2
,
 
.
i
n
l
 
t
_
3
3
.
2
.
2
.
2
.
2
.
2
.
2
.
2
.
2
.
2
.
1
.
2
)
)
,
 
(
h
c
h
k
,
 
.
i
n
r
 
(
6
,
 
[
.
r
e
f
 
a
c
h
k
,
 
.
i
n
t
 
t
_
3
3
.
2
.
2
.
2
.
2
.
2
.
2
.
2
.
2
.
2
.
2
.
1
.
1
]
)
)
,
 
(
a
c
h
k
,
 
.
i
n
l
 
(
E
.
2
.
1
,
 
3
2
,
 
.
i
n
l
 
t
_
3
3
.
2
.
2
.
2
.
2
.
2
.
2
.
2
.
2
.
2
.
2
.
1
.
2
)
)
,
 
(
h
c
o
l
,
 
.
i
n
r
 
(
6
,
 
[
.
r
e
f
 
a
c
o
l
,
 
.
i
n
t
 
t
_
3
3
.
2
.
2
.
2
.
2
.
2
.
2
.
2
.
2
.
2
.
2
.
2
.
1
]
)
)
]
 
:
=
 
h
D
_
4
5


 
 
 
 
c
l
e
a
r
 
h
P
_
3
2
 
h
D
_
3
2
 
h
S
_
3
2


 
 
 
 
r
e
f
i
n
e
 
l
v
_
g
o
t
o
 
(
t
g
t
 
:
=
 
2
1
)
 
h
x
 
h
b
 
d
L
_
o
p
e
n
_
9
 
(
b
y
 
d
e
c
i
d
e
)
 
?
_


 
 
 
 
r
e
f
i
n
e
 
l
v
_
i
c
o
n
s
t
 
(
v
 
:
=
 
0
)
 
h
x
 
h
b
 
d
L
_
o
p
e
n
_
2
1
 
(
b
y
 
d
e
c
i
d
e
)
 
?
_


 
 
 
 
r
e
f
i
n
e
 
v
x
_
r
e
t
 
?
_


 
 
 
 
h
a
v
e
 
h
p
o
s
t
 
:
 
(
(
0
,
 
(
t
_
3
3
.
2
.
2
.
1
,
 
t
_
3
3
.
2
.
2
.
2
.
1
,
 
t
_
3
3
.
2
.
2
.
2
.
2
.
1
,
 
t
_
3
3
.
2
.
2
.
2
.
2
.
2
.
1
,
 
t
_
3
3
.
2
.
2
.
2
.
2
.
2
.
2
.
1
,
 
t
_
3
3
.
2
.
2
.
2
.
2
.
2
.
2
.
2
.
1
,
 
t
_
3
3
.
2
.
2
.
2
.
2
.
2
.
2
.
2
.
2
.
1
,
 
t
_
3
3
.
2
.
2
.
2
.
2
.
2
.
2
.
2
.
2
.
2
.
1
,
 
t
_
3
3
.
2
.
2
.
2
.
2
.
2
.
2
.
2
.
2
.
2
.
2
.
1
,
 
(
t
_
3
3
.
2
.
2
.
2
.
2
.
2
.
2
.
2
.
2
.
2
.
2
.
2
.
1
,
 
X
c
o
l
.
2
)
,
 
(
v
p
_
u
p
d
L
 
g
g
 
(
0
 
:
 
I
n
t
3
2
)
.
t
o
N
a
t
C
l
a
m
p
N
e
g
 
(
t
_
3
3
.
2
.
1
.
t
o
I
n
t
6
4
)
)
)
)
 
:
 
I
n
t
3
2
 
×
 
(
g
R
o
w
 
×
 
g
R
o
w
 
×
 
(
N
a
t
 
→
 
I
n
t
3
2
)
 
×
 
(
N
a
t
 
→
 
I
n
t
3
2
)
 
×
 
(
N
a
t
 
→
 
I
n
t
3
2
)
 
×
 
g
R
o
w
 
×
 
g
R
o
w
 
×
 
g
R
o
w
 
×
 
g
R
o
w
 
×
 
g
R
o
w
 
×
 
(
N
a
t
 
→
 
I
n
t
6
4
)
)
)
 
=
 
F
_
L
_
o
p
e
n
_
e
 
r
v
 
p
e
r
m
 
p
l
a
i
n
 
X
t
r
i
e
d
 
X
i
d
e
n
t
 
X
s
e
c
r
e
t
 
X
e
0
 
X
e
1
 
b
k
s
m
 
s
t
s
m
 
m
x
s
r
 
X
t
e
x
t
 
X
s
u
m
 
X
p
a
d
 
X
c
h
k
 
X
c
o
l
 
g
g
 
v
c
 
:
=
 
(
s
h
o
w
 
F
_
L
_
o
p
e
n
_
e
 
r
v
 
p
e
r
m
 
p
l
a
i
n
 
X
t
r
i
e
d
 
X
i
d
e
n
t
 
X
s
e
c
r
e
t
 
X
e
0
 
X
e
1
 
b
k
s
m
 
s
t
s
m
 
m
x
s
r
 
X
t
e
x
t
 
X
s
u
m
 
X
p
a
d
 
X
c
h
k
 
X
c
o
l
 
g
g
 
v
c
 
=
 
(
(
0
,
 
(
t
_
3
3
.
2
.
2
.
1
,
 
t
_
3
3
.
2
.
2
.
2
.
1
,
 
t
_
3
3
.
2
.
2
.
2
.
2
.
1
,
 
t
_
3
3
.
2
.
2
.
2
.
2
.
2
.
1
,
 
t
_
3
3
.
2
.
2
.
2
.
2
.
2
.
2
.
1
,
 
t
_
3
3
.
2
.
2
.
2
.
2
.
2
.
2
.
2
.
1
,
 
t
_
3
3
.
2
.
2
.
2
.
2
.
2
.
2
.
2
.
2
.
1
,
 
t
_
3
3
.
2
.
2
.
2
.
2
.
2
.
2
.
2
.
2
.
2
.
1
,
 
t
_
3
3
.
2
.
2
.
2
.
2
.
2
.
2
.
2
.
2
.
2
.
2
.
1
,
 
(
t
_
3
3
.
2
.
2
.
2
.
2
.
2
.
2
.
2
.
2
.
2
.
2
.
2
.
1
,
 
X
c
o
l
.
2
)
,
 
(
v
p
_
u
p
d
L
 
g
g
 
(
0
 
:
 
I
n
t
3
2
)
.
t
o
N
a
t
C
l
a
m
p
N
e
g
 
(
t
_
3
3
.
2
.
1
.
t
o
I
n
t
6
4
)
)
)
)
 
:
 
I
n
t
3
2
 
×
 
(
g
R
o
w
 
×
 
g
R
o
w
 
×
 
(
N
a
t
 
→
 
I
n
t
3
2
)
 
×
 
(
N
a
t
 
→
 
I
n
t
3
2
)
 
×
 
(
N
a
t
 
→
 
I
n
t
3
2
)
 
×
 
g
R
o
w
 
×
 
g
R
o
w
 
×
 
g
R
o
w
 
×
 
g
R
o
w
 
×
 
g
R
o
w
 
×
 
(
N
a
t
 
→
 
I
n
t
6
4
)
)
)
 
f
r
o
m
 
(
g
L
e
t
_
e
q
 
h
t
_
3
3
 
(
(
i
f
_
p
o
s
 
c
_
4
3
)
.
t
r
a
n
s
 
r
f
l
)
)
)
.
s
y
m
m


 
 
 
 
h
a
v
e
 
h
P
9
 
:
=
 
h
P
_
4
5
.
s
u
b
 
(
w
s
'
 
:
=
 
[
(
h
,
 
.
i
n
r
 
(
1
1
,
 
[
.
r
e
f
 
h
l
k
,
 
.
r
e
f
 
h
v
,
 
.
r
e
f
 
h
t
,
 
.
r
e
f
 
h
c
o
l
,
 
.
r
e
f
 
h
a
n
s
,
 
.
i
n
t
 
c
f
o
r
,
 
.
i
n
t
 
c
b
a
c
k
,
 
.
i
n
t
 
f
i
l
t
]
)
)
,
 
(
h
l
k
,
 
.
i
n
r
 
(
3
,
 
[
.
r
e
f
 
h
v
,
 
.
r
e
f
 
h
t
,
 
.
r
e
f
 
h
p
a
d
,
 
.
r
e
f
 
h
c
h
k
]
)
)
,
 
(
h
v
,
 
.
i
n
r
 
(
1
0
,
 
[
.
i
n
t
 
(
n
I
 
r
v
)
,
 
.
r
e
f
 
h
u
s
e
r
,
 
.
r
e
f
 
h
o
w
n
e
r
,
 
.
r
e
f
 
h
t
r
i
e
d
,
 
.
r
e
f
 
h
i
d
e
n
t
,
 
.
r
e
f
 
h
t
a
p
e
,
 
.
i
n
t
 
g
i
v
e
n
,
 
.
r
e
f
 
h
s
e
c
r
e
t
,
 
.
r
e
f
 
q
e
n
t
,
 
.
r
e
f
 
h
n
o
e
,
 
.
i
n
t
 
p
e
r
m
,
 
.
i
n
t
 
p
l
a
i
n
]
)
)
,
 
(
h
t
r
i
e
d
,
 
.
i
n
r
 
(
6
,
 
[
.
r
e
f
 
a
t
r
i
e
d
,
 
.
i
n
t
 
t
_
3
3
.
2
.
2
.
1
.
1
]
)
)
,
 
(
a
t
r
i
e
d
,
 
.
i
n
l
 
(
E
.
2
.
1
,
 
1
2
7
,
 
.
i
n
l
 
t
_
3
3
.
2
.
2
.
1
.
2
)
)
,
 
(
h
i
d
e
n
t
,
 
.
i
n
r
 
(
6
,
 
[
.
r
e
f
 
a
i
d
e
n
t
,
 
.
i
n
t
 
X
i
d
e
n
t
.
1
]
)
)
,
 
(
a
i
d
e
n
t
,
 
.
i
n
l
 
(
E
.
2
.
1
,
 
3
2
,
 
.
i
n
l
 
X
i
d
e
n
t
.
2
)
)
,
 
(
h
s
e
c
r
e
t
,
 
.
i
n
r
 
(
6
,
 
[
.
r
e
f
 
a
s
e
c
r
e
t
,
 
.
i
n
t
 
t
_
3
3
.
2
.
2
.
2
.
1
.
1
]
)
)
,
 
(
a
s
e
c
r
e
t
,
 
.
i
n
l
 
(
E
.
2
.
1
,
 
3
2
,
 
.
i
n
l
 
t
_
3
3
.
2
.
2
.
2
.
1
.
2
)
)
,
 
(
q
e
n
t
,
 
.
i
n
l
 
(
E
.
2
.
2
.
1
,
 
2
,
 
.
i
n
r
 
(
.
i
n
r
 
(
.
i
n
r
 
(
.
i
n
r
 
(
g
E
n
t
 
[
h
e
0
,
 
h
e
1
]
)
)
)
)
)
)
,
 
(
h
e
0
,
 
.
i
n
r
 
(
6
,
 
[
.
r
e
f
 
a
e
0
,
 
.
i
n
t
 
X
e
0
.
1
]
)
)
,
 
(
a
e
0
,
 
.
i
n
l
 
(
E
.
2
.
1
,
 
4
8
,
 
.
i
n
l
 
X
e
0
.
2
)
)
,
 
(
h
e
1
,
 
.
i
n
r
 
(
6
,
 
[
.
r
e
f
 
a
e
1
,
 
.
i
n
t
 
X
e
1
.
1
]
)
)
,
 
(
a
e
1
,
 
.
i
n
l
 
(
E
.
2
.
1
,
 
4
8
,
 
.
i
n
l
 
X
e
1
.
2
)
)
,
 
(
h
t
,
 
.
i
n
r
 
(
9
,
 
[
.
r
e
f
 
h
s
m
,
 
.
r
e
f
 
h
g
r
,
 
.
r
e
f
 
h
s
r
,
 
.
r
e
f
 
h
b
l
,
 
.
r
e
f
 
h
t
e
x
t
,
 
.
r
e
f
 
h
s
u
m
]
)
)
,
 
(
h
s
m
,
 
.
i
n
r
 
(
7
,
 
[
.
r
e
f
 
q
b
s
m
,
 
.
r
e
f
 
q
s
s
m
]
)
)
,
 
(
q
b
s
m
,
 
.
i
n
l
 
(
E
.
2
.
1
,
 
1
6
,
 
.
i
n
l
 
t
_
3
3
.
2
.
2
.
2
.
2
.
1
)
)
,
 
(
q
s
s
m
,
 
.
i
n
l
 
(
E
.
2
.
1
,
 
4
,
 
.
i
n
l
 
t
_
3
3
.
2
.
2
.
2
.
2
.
2
.
1
)
)
,
 
(
h
s
r
,
 
.
i
n
r
 
(
8
,
 
[
.
r
e
f
 
q
m
s
r
]
)
)
,
 
(
q
m
s
r
,
 
.
i
n
l
 
(
E
.
2
.
1
,
 
2
5
6
,
 
.
i
n
l
 
t
_
3
3
.
2
.
2
.
2
.
2
.
2
.
2
.
1
)
)
,
 
(
h
t
e
x
t
,
 
.
i
n
r
 
(
6
,
 
[
.
r
e
f
 
a
t
e
x
t
,
 
.
i
n
t
 
t
_
3
3
.
2
.
2
.
2
.
2
.
2
.
2
.
2
.
1
.
1
]
)
)
,
 
(
a
t
e
x
t
,
 
.
i
n
l
 
(
E
.
2
.
1
,
 
4
3
2
,
 
.
i
n
l
 
t
_
3
3
.
2
.
2
.
2
.
2
.
2
.
2
.
2
.
1
.
2
)
)
,
 
(
h
s
u
m
,
 
.
i
n
r
 
(
6
,
 
[
.
r
e
f
 
a
s
u
m
,
 
.
i
n
t
 
t
_
3
3
.
2
.
2
.
2
.
2
.
2
.
2
.
2
.
2
.
1
.
1
]
)
)
,
 
(
a
s
u
m
,
 
.
i
n
l
 
(
E
.
2
.
1
,
 
3
2
,
 
.
i
n
l
 
t
_
3
3
.
2
.
2
.
2
.
2
.
2
.
2
.
2
.
2
.
1
.
2
)
)
,
 
(
h
p
a
d
,
 
.
i
n
r
 
(
6
,
 
[
.
r
e
f
 
a
p
a
d
,
 
.
i
n
t
 
t
_
3
3
.
2
.
2
.
2
.
2
.
2
.
2
.
2
.
2
.
2
.
1
.
1
]
)
)
,
 
(
a
p
a
d
,
 
.
i
n
l
 
(
E
.
2
.
1
,
 
3
2
,
 
.
i
n
l
 
t
_
3
3
.
2
.
2
.
2
.
2
.
2
.
2
.
2
.
2
.
2
.
1
.
2
)
)
,
 
(
h
c
h
k
,
 
.
i
n
r
 
(
6
,
 
[
.
r
e
f
 
a
c
h
k
,
 
.
i
n
t
 
t
_
3
3
.
2
.
2
.
2
.
2
.
2
.
2
.
2
.
2
.
2
.
2
.
1
.
1
]
)
)
,
 
(
a
c
h
k
,
 
.
i
n
l
 
(
E
.
2
.
1
,
 
3
2
,
 
.
i
n
l
 
t
_
3
3
.
2
.
2
.
2
.
2
.
2
.
2
.
2
.
2
.
2
.
2
.
1
.
2
)
)
,
 
(
h
c
o
l
,
 
.
i
n
r
 
(
6
,
 
[
.
r
e
f
 
a
c
o
l
,
 
.
i
n
t
 
t
_
3
3
.
2
.
2
.
2
.
2
.
2
.
2
.
2
.
2
.
2
.
2
.
2
.
1
]
)
)
,
 
(
a
o
u
t
,
 
.
i
n
l
 
(
c
L
,
 
1
,
 
.
i
n
r
 
(
.
i
n
l
 
(
v
p
_
u
p
d
L
 
g
g
 
(
0
 
:
 
I
n
t
3
2
)
.
t
o
N
a
t
C
l
a
m
p
N
e
g
 
(
t
_
3
3
.
2
.
1
.
t
o
I
n
t
6
4
)
)
)
)
)
]
)
 
[
1
,
 
2
,
 
3
,
 
4
,
 
5
,
 
6
,
 
7
,
 
8
,
 
9
,
 
1
0
,
 
1
1
,
 
1
2
,
 
1
3
,
 
1
4
,
 
1
5
,
 
1
6
,
 
1
7
,
 
1
8
,
 
1
9
,
 
2
0
,
 
2
1
,
 
2
2
,
 
2
3
,
 
2
4
,
 
2
5
,
 
2
6
,
 
2
7
,
 
2
8
,
 
2
9
,
 
0
]
 
r
f
l


 
 
 
 
h
a
v
e
 
h
D
9
 
:
=
 
h
D
_
4
5
.
s
u
b
 
(
w
s
'
 
:
=
 
[
(
h
,
 
.
i
n
r
 
(
1
1
,
 
[
.
r
e
f
 
h
l
k
,
 
.
r
e
f
 
h
v
,
 
.
r
e
f
 
h
t
,
 
.
r
e
f
 
h
c
o
l
,
 
.
r
e
f
 
h
a
n
s
,
 
.
i
n
t
 
c
f
o
r
,
 
.
i
n
t
 
c
b
a
c
k
,
 
.
i
n
t
 
f
i
l
t
]
)
)
,
 
(
h
l
k
,
 
.
i
n
r
 
(
3
,
 
[
.
r
e
f
 
h
v
,
 
.
r
e
f
 
h
t
,
 
.
r
e
f
 
h
p
a
d
,
 
.
r
e
f
 
h
c
h
k
]
)
)
,
 
(
h
v
,
 
.
i
n
r
 
(
1
0
,
 
[
.
i
n
t
 
(
n
I
 
r
v
)
,
 
.
r
e
f
 
h
u
s
e
r
,
 
.
r
e
f
 
h
o
w
n
e
r
,
 
.
r
e
f
 
h
t
r
i
e
d
,
 
.
r
e
f
 
h
i
d
e
n
t
,
 
.
r
e
f
 
h
t
a
p
e
,
 
.
i
n
t
 
g
i
v
e
n
,
 
.
r
e
f
 
h
s
e
c
r
e
t
,
 
.
r
e
f
 
q
e
n
t
,
 
.
r
e
f
 
h
n
o
e
,
 
.
i
n
t
 
p
e
r
m
,
 
.
i
n
t
 
p
l
a
i
n
]
)
)
,
 
(
h
t
r
i
e
d
,
 
.
i
n
r
 
(
6
,
 
[
.
r
e
f
 
a
t
r
i
e
d
,
 
.
i
n
t
 
t
_
3
3
.
2
.
2
.
1
.
1
]
)
)
,
 
(
a
t
r
i
e
d
,
 
.
i
n
l
 
(
E
.
2
.
1
,
 
1
2
7
,
 
.
i
n
l
 
t
_
3
3
.
2
.
2
.
1
.
2
)
)
,
 
(
h
i
d
e
n
t
,
 
.
i
n
r
 
(
6
,
 
[
.
r
e
f
 
a
i
d
e
n
t
,
 
.
i
n
t
 
X
i
d
e
n
t
.
1
]
)
)
,
 
(
a
i
d
e
n
t
,
 
.
i
n
l
 
(
E
.
2
.
1
,
 
3
2
,
 
.
i
n
l
 
X
i
d
e
n
t
.
2
)
)
,
 
(
h
s
e
c
r
e
t
,
 
.
i
n
r
 
(
6
,
 
[
.
r
e
f
 
a
s
e
c
r
e
t
,
 
.
i
n
t
 
t
_
3
3
.
2
.
2
.
2
.
1
.
1
]
)
)
,
 
(
a
s
e
c
r
e
t
,
 
.
i
n
l
 
(
E
.
2
.
1
,
 
3
2
,
 
.
i
n
l
 
t
_
3
3
.
2
.
2
.
2
.
1
.
2
)
)
,
 
(
q
e
n
t
,
 
.
i
n
l
 
(
E
.
2
.
2
.
1
,
 
2
,
 
.
i
n
r
 
(
.
i
n
r
 
(
.
i
n
r
 
(
.
i
n
r
 
(
g
E
n
t
 
[
h
e
0
,
 
h
e
1
]
)
)
)
)
)
)
,
 
(
h
e
0
,
 
.
i
n
r
 
(
6
,
 
[
.
r
e
f
 
a
e
0
,
 
.
i
n
t
 
X
e
0
.
1
]
)
)
,
 
(
a
e
0
,
 
.
i
n
l
 
(
E
.
2
.
1
,
 
4
8
,
 
.
i
n
l
 
X
e
0
.
2
)
)
,
 
(
h
e
1
,
 
.
i
n
r
 
(
6
,
 
[
.
r
e
f
 
a
e
1
,
 
.
i
n
t
 
X
e
1
.
1
]
)
)
,
 
(
a
e
1
,
 
.
i
n
l
 
(
E
.
2
.
1
,
 
4
8
,
 
.
i
n
l
 
X
e
1
.
2
)
)
,
 
(
h
t
,
 
.
i
n
r
 
(
9
,
 
[
.
r
e
f
 
h
s
m
,
 
.
r
e
f
 
h
g
r
,
 
.
r
e
f
 
h
s
r
,
 
.
r
e
f
 
h
b
l
,
 
.
r
e
f
 
h
t
e
x
t
,
 
.
r
e
f
 
h
s
u
m
]
)
)
,
 
(
h
s
m
,
 
.
i
n
r
 
(
7
,
 
[
.
r
e
f
 
q
b
s
m
,
 
.
r
e
f
 
q
s
s
m
]
)
)
,
 
(
q
b
s
m
,
 
.
i
n
l
 
(
E
.
2
.
1
,
 
1
6
,
 
.
i
n
l
 
t
_
3
3
.
2
.
2
.
2
.
2
.
1
)
)
,
 
(
q
s
s
m
,
 
.
i
n
l
 
(
E
.
2
.
1
,
 
4
,
 
.
i
n
l
 
t
_
3
3
.
2
.
2
.
2
.
2
.
2
.
1
)
)
,
 
(
h
s
r
,
 
.
i
n
r
 
(
8
,
 
[
.
r
e
f
 
q
m
s
r
]
)
)
,
 
(
q
m
s
r
,
 
.
i
n
l
 
(
E
.
2
.
1
,
 
2
5
6
,
 
.
i
n
l
 
t
_
3
3
.
2
.
2
.
2
.
2
.
2
.
2
.
1
)
)
,
 
(
h
t
e
x
t
,
 
.
i
n
r
 
(
6
,
 
[
.
r
e
f
 
a
t
e
x
t
,
 
.
i
n
t
 
t
_
3
3
.
2
.
2
.
2
.
2
.
2
.
2
.
2
.
1
.
1
]
)
)
,
 
(
a
t
e
x
t
,
 
.
i
n
l
 
(
E
.
2
.
1
,
 
4
3
2
,
 
.
i
n
l
 
t
_
3
3
.
2
.
2
.
2
.
2
.
2
.
2
.
2
.
1
.
2
)
)
,
 
(
h
s
u
m
,
 
.
i
n
r
 
(
6
,
 
[
.
r
e
f
 
a
s
u
m
,
 
.
i
n
t
 
t
_
3
3
.
2
.
2
.
2
.
2
.
2
.
2
.
2
.
2
.
1
.
1
]
)
)
,
 
(
a
s
u
m
,
 
.
i
n
l
 
(
E
.
2
.
1
,
 
3
2
,
 
.
i
n
l
 
t
_
3
3
.
2
.
2
.
2
.
2
.
2
.
2
.
2
.
2
.
1
.
2
)
)
,
 
(
h
p
a
d
,
 
.
i
n
r
 
(
6
,
 
[
.
r
e
f
 
a
p
a
d
,
 
.
i
n
t
 
t
_
3
3
.
2
.
2
.
2
.
2
.
2
.
2
.
2
.
2
.
2
.
1
.
1
]
)
)
,
 
(
a
p
a
d
,
 
.
i
n
l
 
(
E
.
2
.
1
,
 
3
2
,
 
.
i
n
l
 
t
_
3
3
.
2
.
2
.
2
.
2
.
2
.
2
.
2
.
2
.
2
.
1
.
2
)
)
,
 
(
h
c
h
k
,
 
.
i
n
r
 
(
6
,
 
[
.
r
e
f
 
a
c
h
k
,
 
.
i
n
t
 
t
_
3
3
.
2
.
2
.
2
.
2
.
2
.
2
.
2
.
2
.
2
.
2
.
1
.
1
]
)
)
,
 
(
a
c
h
k
,
 
.
i
n
l
 
(
E
.
2
.
1
,
 
3
2
,
 
.
i
n
l
 
t
_
3
3
.
2
.
2
.
2
.
2
.
2
.
2
.
2
.
2
.
2
.
2
.
1
.
2
)
)
,
 
(
h
c
o
l
,
 
.
i
n
r
 
(
6
,
 
[
.
r
e
f
 
a
c
o
l
,
 
.
i
n
t
 
t
_
3
3
.
2
.
2
.
2
.
2
.
2
.
2
.
2
.
2
.
2
.
2
.
2
.
1
]
)
)
,
 
(
a
o
u
t
,
 
.
i
n
l
 
(
c
L
,
 
1
,
 
.
i
n
r
 
(
.
i
n
l
 
(
v
p
_
u
p
d
L
 
g
g
 
(
0
 
:
 
I
n
t
3
2
)
.
t
o
N
a
t
C
l
a
m
p
N
e
g
 
(
t
_
3
3
.
2
.
1
.
t
o
I
n
t
6
4
)
)
)
)
)
]
)
 
[
1
,
 
2
,
 
3
,
 
4
,
 
5
,
 
6
,
 
7
,
 
8
,
 
9
,
 
1
0
,
 
1
1
,
 
1
2
,
 
1
3
,
 
1
4
,
 
1
5
,
 
1
6
,
 
1
7
,
 
1
8
,
 
1
9
,
 
2
0
,
 
2
1
,
 
2
2
,
 
2
3
,
 
2
4
,
 
2
5
,
 
2
6
,
 
2
7
,
 
2
8
,
 
2
9
,
 
0
]
 
(
b
y
 
d
e
c
i
d
e
)
 
r
f
l


 
 
 
 
e
x
a
c
t
 
W
.
i
r
e
t
 
(
v
 
:
=
 
0
)
 
h
x
 
h
b
 
h
r
 
(
f
u
n
 
t
 
h
t
 
h
W
 
=
>
 
⟨
⟨
0
,
 
(
t
_
3
3
.
2
.
2
.
1
,
 
t
_
3
3
.
2
.
2
.
2
.
1
,
 
t
_
3
3
.
2
.
2
.
2
.
2
.
1
,
 
t
_
3
3
.
2
.
2
.
2
.
2
.
2
.
1
,
 
t
_
3
3
.
2
.
2
.
2
.
2
.
2
.
2
.
1
,
 
t
_
3
3
.
2
.
2
.
2
.
2
.
2
.
2
.
2
.
1
,
 
t
_
3
3
.
2
.
2
.
2
.
2
.
2
.
2
.
2
.
2
.
1
,
 
t
_
3
3
.
2
.
2
.
2
.
2
.
2
.
2
.
2
.
2
.
2
.
1
,
 
t
_
3
3
.
2
.
2
.
2
.
2
.
2
.
2
.
2
.
2
.
2
.
2
.
1
,
 
(
t
_
3
3
.
2
.
2
.
2
.
2
.
2
.
2
.
2
.
2
.
2
.
2
.
2
.
1
,
 
X
c
o
l
.
2
)
,
 
(
v
p
_
u
p
d
L
 
g
g
 
(
0
 
:
 
I
n
t
3
2
)
.
t
o
N
a
t
C
l
a
m
p
N
e
g
 
(
t
_
3
3
.
2
.
1
.
t
o
I
n
t
6
4
)
)
)
,
 
r
f
l
,
 
⟨
c
o
n
g
r
A
r
g
 
P
r
o
d
.
f
s
t
 
h
p
o
s
t
,
 
c
o
n
g
r
A
r
g
 
P
r
o
d
.
s
n
d
 
h
p
o
s
t
⟩
,
 
b
y
 
r
w
 
[
h
t
]
;
 
e
x
a
c
t
 
h
P
9
,
 
h
D
9
⟩
,
 
h
S
_
4
5
.
F
 
h
t
⟩
)
 
h
S
_
4
5
.
2
.
2
 
d
L
_
o
p
e
n
_
2
2


s
e
t
_
o
p
t
i
o
n
 
m
a
x
H
e
a
r
t
b
e
a
t
s
 
4
0
0
0
0
0
0
 
i
n


s
e
t
_
o
p
t
i
o
n
 
m
a
x
R
e
c
D
e
p
t
h
 
1
0
0
0
0
0
 
i
n


t
h
e
o
r
e
m
 
k
_
L
_
k
e
y
_
e
 
(
E
 
:
 
g
E
)
 
(
s
a
 
:
 
N
a
t
 
→
 
N
a
t
)
 
(
c
L
 
:
 
C
l
a
s
s
I
d
)
 
(
l
 
:
 
L
a
u
n
c
h
)
 
(
h
s
t
 
:
 
l
.
s
t
a
c
k
T
r
a
c
e
s
 
=
 
f
a
l
s
e
)
 
(
h
 
a
o
u
t
 
h
l
k
 
h
v
 
h
t
 
h
c
o
l
 
h
a
n
s
 
h
p
a
d
 
h
c
h
k
 
h
u
s
e
r
 
h
o
w
n
e
r
 
h
t
r
i
e
d
 
h
i
d
e
n
t
 
h
t
a
p
e
 
h
s
e
c
r
e
t
 
q
e
n
t
 
h
n
o
e
 
a
s
e
c
r
e
t
 
h
s
m
 
h
g
r
 
h
s
r
 
h
b
l
 
h
t
e
x
t
 
h
s
u
m
 
q
b
s
m
 
q
s
s
m
 
a
t
e
x
t
 
a
a
n
s
 
:
 
N
a
t
)
 
(
r
v
 
:
 
N
a
t
)
 
(
c
f
o
r
 
:
 
I
n
t
3
2
)
 
(
c
b
a
c
k
 
:
 
I
n
t
3
2
)
 
(
f
i
l
t
 
:
 
I
n
t
3
2
)
 
(
g
i
v
e
n
 
:
 
I
n
t
3
2
)
 
(
p
e
r
m
 
:
 
I
n
t
3
2
)
 
(
p
l
a
i
n
 
:
 
I
n
t
3
2
)
 
(
X
s
e
c
r
e
t
 
:
 
g
R
o
w
)
 
(
b
k
s
m
 
:
 
N
a
t
 
→
 
I
n
t
3
2
)
 
(
s
t
s
m
 
:
 
N
a
t
 
→
 
I
n
t
3
2
)
 
(
X
t
e
x
t
 
:
 
g
R
o
w
)
 
(
X
a
n
s
 
:
 
g
R
o
w
)
 
(
g
g
 
:
 
N
a
t
 
→
 
I
n
t
6
4
)
 
(
n
u
m
b
e
r
 
:
 
I
n
t
3
2
)
 
(
g
e
n
e
r
a
t
i
o
n
 
:
 
I
n
t
3
2
)
 
(
h
2
r
v
 
:
 
2
 
≤
 
r
v
 
∧
 
r
v
 
≤
 
4
)
 
:
 
g
H
i
 
E
 
s
a
 
c
L
 
l
 
y
L
_
k
e
y
 
w
s
L
_
k
e
y
 
(
{
 
f
r
a
m
e
s
 
:
=
 
7
,
 
c
e
l
l
s
 
:
=
 
1
,
 
s
l
o
t
s
 
:
=
 
6
,
 
l
o
c
a
l
s
 
:
=
 
1
2
2
 
}
)
 
1
 
6
 
[
.
r
e
f
 
h
,
 
.
i
n
t
 
n
u
m
b
e
r
,
 
.
i
n
t
 
g
e
n
e
r
a
t
i
o
n
,
 
.
r
e
f
 
a
o
u
t
]
 
[
(
h
,
 
.
i
n
r
 
(
1
1
,
 
[
.
r
e
f
 
h
l
k
,
 
.
r
e
f
 
h
v
,
 
.
r
e
f
 
h
t
,
 
.
r
e
f
 
h
c
o
l
,
 
.
r
e
f
 
h
a
n
s
,
 
.
i
n
t
 
c
f
o
r
,
 
.
i
n
t
 
c
b
a
c
k
,
 
.
i
n
t
 
f
i
l
t
]
)
)
,
 
(
h
l
k
,
 
.
i
n
r
 
(
3
,
 
[
.
r
e
f
 
h
v
,
 
.
r
e
f
 
h
t
,
 
.
r
e
f
 
h
p
a
d
,
 
.
r
e
f
 
h
c
h
k
]
)
)
,
 
(
h
v
,
 
.
i
n
r
 
(
1
0
,
 
[
.
i
n
t
 
(
n
I
 
r
v
)
,
 
.
r
e
f
 
h
u
s
e
r
,
 
.
r
e
f
 
h
o
w
n
e
r
,
 
.
r
e
f
 
h
t
r
i
e
d
,
 
.
r
e
f
 
h
i
d
e
n
t
,
 
.
r
e
f
 
h
t
a
p
e
,
 
.
i
n
t
 
g
i
v
e
n
,
 
.
r
e
f
 
h
s
e
c
r
e
t
,
 
.
r
e
f
 
q
e
n
t
,
 
.
r
e
f
 
h
n
o
e
,
 
.
i
n
t
 
p
e
r
m
,
 
.
i
n
t
 
p
l
a
i
n
]
)
)
,
 
(
h
s
e
c
r
e
t
,
 
.
i
n
r
 
(
6
,
 
[
.
r
e
f
 
a
s
e
c
r
e
t
,
 
.
i
n
t
 
X
s
e
c
r
e
t
.
1
]
)
)
,
 
(
a
s
e
c
r
e
t
,
 
.
i
n
l
 
(
E
.
2
.
1
,
 
3
2
,
 
.
i
n
l
 
X
s
e
c
r
e
t
.
2
)
)
,
 
(
h
t
,
 
.
i
n
r
 
(
9
,
 
[
.
r
e
f
 
h
s
m
,
 
.
r
e
f
 
h
g
r
,
 
.
r
e
f
 
h
s
r
,
 
.
r
e
f
 
h
b
l
,
 
.
r
e
f
 
h
t
e
x
t
,
 
.
r
e
f
 
h
s
u
m
]
)
)
,
 
(
h
s
m
,
 
.
i
n
r
 
(
7
,
 
[
.
r
e
f
 
q
b
s
m
,
 
.
r
e
f
 
q
s
s
m
]
)
)
,
 
(
q
b
s
m
,
 
.
i
n
l
 
(
E
.
2
.
1
,
 
1
6
,
 
.
i
n
l
 
b
k
s
m
)
)
,
 
(
q
s
s
m
,
 
.
i
n
l
 
(
E
.
2
.
1
,
 
4
,
 
.
i
n
l
 
s
t
s
m
)
)
,
 
(
h
t
e
x
t
,
 
.
i
n
r
 
(
6
,
 
[
.
r
e
f
 
a
t
e
x
t
,
 
.
i
n
t
 
X
t
e
x
t
.
1
]
)
)
,
 
(
a
t
e
x
t
,
 
.
i
n
l
 
(
E
.
2
.
1
,
 
4
3
2
,
 
.
i
n
l
 
X
t
e
x
t
.
2
)
)
,
 
(
h
a
n
s
,
 
.
i
n
r
 
(
6
,
 
[
.
r
e
f
 
a
a
n
s
,
 
.
i
n
t
 
X
a
n
s
.
1
]
)
)
,
 
(
a
a
n
s
,
 
.
i
n
l
 
(
E
.
2
.
1
,
 
4
3
2
,
 
.
i
n
l
 
X
a
n
s
.
2
)
)
,
 
(
a
o
u
t
,
 
.
i
n
l
 
(
c
L
,
 
1
,
 
.
i
n
r
 
(
.
i
n
l
 
g
g
)
)
)
]
 
(
f
u
n
 
(
r
r
 
:
 
I
n
t
3
2
)
 
(
u
u
 
:
 
(
N
a
t
 
→
 
I
n
t
3
2
)
 
×
 
(
N
a
t
 
→
 
I
n
t
3
2
)
 
×
 
g
R
o
w
 
×
 
g
R
o
w
 
×
 
(
N
a
t
 
→
 
I
n
t
6
4
)
)
 
=
>
 
r
r
 
=
 
(
F
_
L
_
k
e
y
_
e
 
f
i
l
t
 
X
s
e
c
r
e
t
 
b
k
s
m
 
s
t
s
m
 
X
t
e
x
t
 
X
a
n
s
 
g
g
 
n
u
m
b
e
r
 
g
e
n
e
r
a
t
i
o
n
)
.
1
 
∧
 
u
u
 
=
 
(
F
_
L
_
k
e
y
_
e
 
f
i
l
t
 
X
s
e
c
r
e
t
 
b
k
s
m
 
s
t
s
m
 
X
t
e
x
t
 
X
a
n
s
 
g
g
 
n
u
m
b
e
r
 
g
e
n
e
r
a
t
i
o
n
)
.
2
)
 
(
f
u
n
 
(
u
u
 
:
 
(
N
a
t
 
→
 
I
n
t
3
2
)
 
×
 
(
N
a
t
 
→
 
I
n
t
3
2
)
 
×
 
g
R
o
w
 
×
 
g
R
o
w
 
×
 
(
N
a
t
 
→
 
I
n
t
6
4
)
)
 
=
>
 
[
(
h
,
 
.
i
n
r
 
(
1
1
,
 
[
.
r
e
f
 
h
l
k
,
 
.
r
e
f
 
h
v
,
 
.
r
e
f
 
h
t
,
 
.
r
e
f
 
h
c
o
l
,
 
.
r
e
f
 
h
a
n
s
,
 
.
i
n
t
 
c
f
o
r
,
 
.
i
n
t
 
c
b
a
c
k
,
 
.
i
n
t
 
f
i
l
t
]
)
)
,
 
(
h
l
k
,
 
.
i
n
r
 
(
3
,
 
[
.
r
e
f
 
h
v
,
 
.
r
e
f
 
h
t
,
 
.
r
e
f
 
h
p
a
d
,
 
.
r
e
f
 
h
c
h
k
]
)
)
,
 
(
h
v
,
 
.
i
n
r
 
(
1
0
,
 
[
.
i
n
t
 
(
n
I
 
r
v
)
,
 
.
r
e
f
 
h
u
s
e
r
,
 
.
r
e
f
 
h
o
w
n
e
r
,
 
.
r
e
f
 
h
t
r
i
e
d
,
 
.
r
e
f
 
h
i
d
e
n
t
,
 
.
r
e
f
 
h
t
a
p
e
,
 
.
i
n
t
 
g
i
v
e
n
,
 
.
r
e
f
 
h
s
e
c
r
e
t
,
 
.
r
e
f
 
q
e
n
t
,
 
.
r
e
f
 
h
n
o
e
,
 
.
i
n
t
 
p
e
r
m
,
 
.
i
n
t
 
p
l
a
i
n
]
)
)
,
 
(
h
s
e
c
r
e
t
,
 
.
i
n
r
 
(
6
,
 
[
.
r
e
f
 
a
s
e
c
r
e
t
,
 
.
i
n
t
 
X
s
e
c
r
e
t
.
1
]
)
)
,
 
(
a
s
e
c
r
e
t
,
 
.
i
n
l
 
(
E
.
2
.
1
,
 
3
2
,
 
.
i
n
l
 
X
s
e
c
r
e
t
.
2
)
)
,
 
(
h
t
,
 
.
i
n
r
 
(
9
,
 
[
.
r
e
f
 
h
s
m
,
 
.
r
e
f
 
h
g
r
,
 
.
r
e
f
 
h
s
r
,
 
.
r
e
f
 
h
b
l
,
 
.
r
e
f
 
h
t
e
x
t
,
 
.
r
e
f
 
h
s
u
m
]
)
)
,
 
(
h
s
m
,
 
.
i
n
r
 
(
7
,
 
[
.
r
e
f
 
q
b
s
m
,
 
.
r
e
f
 
q
s
s
m
]
)
)
,
 
(
q
b
s
m
,
 
.
i
n
l
 
(
E
.
2
.
1
,
 
1
6
,
 
.
i
n
l
 
u
u
.
1
)
)
,
 
(
q
s
s
m
,
 
.
i
n
l
 
(
E
.
2
.
1
,
 
4
,
 
.
i
n
l
 
u
u
.
2
.
1
)
)
,
 
(
h
t
e
x
t
,
 
.
i
n
r
 
(
6
,
 
[
.
r
e
f
 
a
t
e
x
t
,
 
.
i
n
t
 
u
u
.
2
.
2
.
1
.
1
]
)
)
,
 
(
a
t
e
x
t
,
 
.
i
n
l
 
(
E
.
2
.
1
,
 
4
3
2
,
 
.
i
n
l
 
u
u
.
2
.
2
.
1
.
2
)
)
,
 
(
h
a
n
s
,
 
.
i
n
r
 
(
6
,
 
[
.
r
e
f
 
a
a
n
s
,
 
.
i
n
t
 
u
u
.
2
.
2
.
2
.
1
.
1
]
)
)
,
 
(
a
a
n
s
,
 
.
i
n
l
 
(
E
.
2
.
1
,
 
4
3
2
,
 
.
i
n
l
 
u
u
.
2
.
2
.
2
.
1
.
2
)
)
,
 
(
a
o
u
t
,
 
.
i
n
l
 
(
c
L
,
 
1
,
 
.
i
n
r
 
(
.
i
n
l
 
u
u
.
2
.
2
.
2
.
2
)
)
)
]
)
 
:
=
 
b
y


 
 
i
n
t
r
o
 
s
z


 
 
r
e
f
i
n
e
 
v
x
_
o
f
W
H
 
(
h
h
 
:
=
 
[
(
0
,
 
1
0
,
 
1
3
,
 
2
6
)
]
)
 
(
c
c
 
:
=
 
c
L
_
k
e
y
)
 
(
m
a
x
L
 
:
=
 
5
)
 
(
r
e
t
 
:
=
 
(
s
o
m
e
 
.
i
n
t
)
)
 
(
b
y
 
d
e
c
i
d
e
)
 
r
f
l
 
?
_


 
 
i
n
t
r
o
 
p
 
e
 
s
 
m
 
a
r
g
s
 
b
e
l
o
w
 
m
e
t
h
 
c
 
s
₁
 
B
 
h
m
l
 
h
v


 
 
o
b
t
a
i
n
 
⟨
r
f
l
,
 
h
s
z
,
 
h
P
,
 
⟨
h
V
,
 
h
X
,
 
h
L
⟩
,
 
h
D
0
⟩
 
:
=
 
h
v


 
 
h
a
v
e
 
h
x
 
:
=
 
B
.
e
x
e
c


 
 
h
a
v
e
 
h
b
 
:
=
 
B
.
b
y
t
e
s


 
 
h
a
v
e
 
h
r
 
:
=
 
B
.
r
e
t
u
r
n
s


 
 
h
a
v
e
 
h
t
s
 
:
=
 
a
t
o
m
s
_
s
p
e
c
 
(
w
s
 
:
=
 
w
s
L
_
k
e
y
)
 
B
.
p
r
e


 
 
h
a
v
e
 
h
o
w
n
 
:
 
s
.
v
m
.
f
i
n
d
C
l
a
s
s
 
R
L
 
=
 
s
o
m
e
 
m
.
c
l
s
 
:
=
 
f
i
n
d
C
l
a
s
s
_
o
f
_
m
e
t
h
o
d
N
a
m
e
d
 
B
.
n
a
m
e
d


 
 
h
a
v
e
 
h
l
o
c
k
s
 
:
=
 
B
.
n
o
t
S
y
n
c
h
r
o
n
i
z
e
d


 
 
h
a
v
e
 
h
t
a
b
 
:
=
 
v
x
_
t
a
b
l
e
 
B
 
(
h
t
s
 
(
.
c
o
d
e
W
i
t
h
 
y
L
_
k
e
y
 
c
L
_
k
e
y
 
5
 
(
s
o
m
e
 
.
i
n
t
)
 
[
(
0
,
 
1
0
,
 
1
3
,
 
2
6
)
]
)
 
(
b
y
 
d
e
c
i
d
e
 
+
k
e
r
n
e
l
)
)


 
 
s
u
b
s
t
 
h
s
z


 
 
h
a
v
e
 
h
D
 
:
=
 
h
D
0
.
s
e
l
f
 
(
s
z
 
:
=
 
s
.
h
e
a
p
.
s
i
z
e
)


 
 
c
l
e
a
r
 
h
D
0


 
 
g
e
n
e
r
a
l
i
z
e
 
h
A
e
 
:
 
v
a
_
A
 
[
(
h
,
 
.
i
n
r
 
(
1
1
,
 
[
.
r
e
f
 
h
l
k
,
 
.
r
e
f
 
h
v
,
 
.
r
e
f
 
h
t
,
 
.
r
e
f
 
h
c
o
l
,
 
.
r
e
f
 
h
a
n
s
,
 
.
i
n
t
 
c
f
o
r
,
 
.
i
n
t
 
c
b
a
c
k
,
 
.
i
n
t
 
f
i
l
t
]
)
)
,
 
(
h
l
k
,
 
.
i
n
r
 
(
3
,
 
[
.
r
e
f
 
h
v
,
 
.
r
e
f
 
h
t
,
 
.
r
e
f
 
h
p
a
d
,
 
.
r
e
f
 
h
c
h
k
]
)
)
,
 
(
h
v
,
 
.
i
n
r
 
(
1
0
,
 
[
.
i
n
t
 
(
n
I
 
r
v
)
,
 
.
r
e
f
 
h
u
s
e
r
,
 
.
r
e
f
 
h
o
w
n
e
r
,
 
.
r
e
f
 
h
t
r
i
e
d
,
 
.
r
e
f
 
h
i
d
e
n
t
,
 
.
r
e
f
 
h
t
a
p
e
,
 
.
i
n
t
 
g
i
v
e
n
,
 
.
r
e
f
 
h
s
e
c
r
e
t
,
 
.
r
e
f
 
q
e
n
t
,
 
.
r
e
f
 
h
n
o
e
,
 
.
i
n
t
 
p
e
r
m
,
 
.
i
n
t
 
p
l
a
i
n
]
)
)
,
 
(
h
s
e
c
r
e
t
,
 
.
i
n
r
 
(
6
,
 
[
.
r
e
f
 
a
s
e
c
r
e
t
,
 
.
i
n
t
 
X
s
e
c
r
e
t
.
1
]
)
)
,
 
(
a
s
e
c
r
e
t
,
 
.
i
n
l
 
(
E
.
2
.
1
,
 
3
2
,
 
.
i
n
l
 
X
s
e
c
r
e
t
.
2
)
)
,
 
(
h
t
,
 
.
i
n
r
 
(
9
,
 
[
.
r
e
f
 
h
s
m
,
 
.
r
e
f
 
h
g
r
,
 
.
r
e
f
 
h
s
r
,
 
.
r
e
f
 
h
b
l
,
 
.
r
e
f
 
h
t
e
x
t
,
 
.
r
e
f
 
h
s
u
m
]
)
)
,
 
(
h
s
m
,
 
.
i
n
r
 
(
7
,
 
[
.
r
e
f
 
q
b
s
m
,
 
.
r
e
f
 
q
s
s
m
]
)
)
,
 
(
q
b
s
m
,
 
.
i
n
l
 
(
E
.
2
.
1
,
 
1
6
,
 
.
i
n
l
 
b
k
s
m
)
)
,
 
(
q
s
s
m
,
 
.
i
n
l
 
(
E
.
2
.
1
,
 
4
,
 
.
i
n
l
 
s
t
s
m
)
)
,
 
(
h
t
e
x
t
,
 
.
i
n
r
 
(
6
,
 
[
.
r
e
f
 
a
t
e
x
t
,
 
.
i
n
t
 
X
t
e
x
t
.
1
]
)
)
,
 
(
a
t
e
x
t
,
 
.
i
n
l
 
(
E
.
2
.
1
,
 
4
3
2
,
 
.
i
n
l
 
X
t
e
x
t
.
2
)
)
,
 
(
h
a
n
s
,
 
.
i
n
r
 
(
6
,
 
[
.
r
e
f
 
a
a
n
s
,
 
.
i
n
t
 
X
a
n
s
.
1
]
)
)
,
 
(
a
a
n
s
,
 
.
i
n
l
 
(
E
.
2
.
1
,
 
4
3
2
,
 
.
i
n
l
 
X
a
n
s
.
2
)
)
,
 
(
a
o
u
t
,
 
.
i
n
l
 
(
c
L
,
 
1
,
 
.
i
n
r
 
(
.
i
n
l
 
g
g
)
)
)
]
 
s
.
h
e
a
p
.
s
i
z
e
 
=
 
A
 
a
t
 
h
D
 
h
V
 
h
X
 
⊢


 
 
h
a
v
e
 
h
A
 
:
 
∀
 
q
 
:
 
N
a
t
,
 
s
.
h
e
a
p
.
s
i
z
e
 
≤
 
q
 
→
 
A
 
q
 
:
=
 
f
u
n
 
q
 
h
 
=
>
 
b
y
 
r
w
 
[
←
 
h
A
e
]
;
 
e
x
a
c
t
 
O
r
.
i
n
r
 
h


 
 
h
a
v
e
 
h
S
 
:
 
v
a
_
S
 
A
 
s
.
h
e
a
p
 
s
.
h
e
a
p
 
[
]
 
:
=
 
v
a
_
S
.
r
f


 
 
h
a
v
e
 
h
K
 
:
=
 
h
V
.
1


 
 
h
a
v
e
 
h
F
 
:
 
C
a
l
l
F
i
x
 
p
 
m
 
c
 
c
L
_
k
e
y
 
5
 
s
 
_
 
w
s
L
_
k
e
y
 
R
L
 
:
=
 
⟨
h
x
,
 
h
b
,
 
h
m
l
,
 
h
o
w
n
,
 
h
t
s
⟩


 
 
h
a
v
e
 
h
l
 
:
=
 
l
v
_
e
n
t
r
y
 
[
.
r
e
f
 
h
,
 
.
i
n
t
 
n
u
m
b
e
r
,
 
.
i
n
t
 
g
e
n
e
r
a
t
i
o
n
,
 
.
r
e
f
 
a
o
u
t
]
 
(
n
 
:
=
 
5
)
 
(
N
a
t
.
l
e
_
o
f
_
b
l
e
_
e
q
_
t
r
u
e
 
r
f
l
)


 
 
r
w
 
[
l
g
_
e
n
t
r
y
_
e
q
]


 
 
g
e
n
e
r
a
l
i
z
e
 
(
l
g
_
s
l
 
[
.
r
e
f
 
h
,
 
.
i
n
t
 
n
u
m
b
e
r
,
 
.
i
n
t
 
g
e
n
e
r
a
t
i
o
n
,
 
.
r
e
f
 
a
o
u
t
]
 
+
+
 
L
i
s
t
.
r
e
p
l
i
c
a
t
e
 
(
5
 
-
 
(
l
g
_
s
l
 
[
.
r
e
f
 
h
,
 
.
i
n
t
 
n
u
m
b
e
r
,
 
.
i
n
t
 
g
e
n
e
r
a
t
i
o
n
,
 
.
r
e
f
 
a
o
u
t
]
)
.
l
e
n
g
t
h
)
 
S
l
o
t
.
u
n
s
e
t
)
.
t
o
A
r
r
a
y
 
=
 
l
s
 
a
t
 
h
l
 
⊢


 
 
h
a
v
e
 
h
l
 
:
 
l
v
_
h
a
s
 
l
s
 
5
 
[
(
0
,
 
.
r
e
f
 
h
)
,
 
(
1
,
 
.
i
n
t
 
n
u
m
b
e
r
)
,
 
(
2
,
 
.
i
n
t
 
g
e
n
e
r
a
t
i
o
n
)
,
 
(
3
,
 
.
r
e
f
 
a
o
u
t
)
]
 
:
=
 
h
l


 
 
h
a
v
e
 
w
_
0
 
:
=
 
h
t
s
 
(
.
c
l
a
s
s
L
i
n
k
 
R
L
 
2
6
 
"
j
a
v
a
/
l
a
n
g
/
I
l
l
e
g
a
l
S
t
a
t
e
E
x
c
e
p
t
i
o
n
"
)
 
(
b
y
 
d
e
c
i
d
e
 
+
k
e
r
n
e
l
)


 
 
r
e
f
i
n
e
 
l
v
_
a
l
o
a
d
_
n
 
h
x
 
h
b
 
d
L
_
k
e
y
_
0
 
r
f
l
 
(
l
v
_
a
t
 
h
l
 
3
 
r
f
l
)
 
?
_


 
 
r
e
f
i
n
e
 
l
v
_
i
c
o
n
s
t
 
(
v
 
:
=
 
0
)
 
h
x
 
h
b
 
d
L
_
k
e
y
_
1
 
(
b
y
 
d
e
c
i
d
e
)
 
?
_


 
 
r
e
f
i
n
e
 
l
v
_
a
l
o
a
d
_
n
 
h
x
 
h
b
 
d
L
_
k
e
y
_
2
 
r
f
l
 
(
l
v
_
a
t
 
h
l
 
0
 
r
f
l
)
 
?
_


 
 
r
e
f
i
n
e
 
l
v
_
i
l
o
a
d
_
n
 
h
x
 
h
b
 
d
L
_
k
e
y
_
3
 
r
f
l
 
(
l
v
_
a
t
 
h
l
 
1
 
r
f
l
)
 
?
_


 
 
r
e
f
i
n
e
 
l
v
_
i
l
o
a
d
_
n
 
h
x
 
h
b
 
d
L
_
k
e
y
_
4
 
r
f
l
 
(
l
v
_
a
t
 
h
l
 
2
 
r
f
l
)
 
?
_


 
 
o
b
t
a
i
n
 
⟨
t
_
2
5
,
 
h
t
_
2
5
⟩
 
:
 
∃
 
t
9
 
:
 
N
a
t
 
×
 
(
I
n
t
3
2
 
×
 
(
(
N
a
t
 
→
 
I
n
t
3
2
)
 
×
 
(
N
a
t
 
→
 
I
n
t
3
2
)
 
×
 
g
R
o
w
 
×
 
g
R
o
w
)
)
,
 
t
9
 
=
 
F
_
X
1
0
_
k
e
y
_
e
 
f
i
l
t
 
X
s
e
c
r
e
t
 
b
k
s
m
 
s
t
s
m
 
X
t
e
x
t
 
X
a
n
s
 
n
u
m
b
e
r
 
g
e
n
e
r
a
t
i
o
n
 
:
=
 
⟨
_
,
 
r
f
l
⟩


 
 
r
e
f
i
n
e
 
g
T
V
i
 
h
F
 
h
l
 
h
V
 
h
X
 
h
P
 
h
D
 
h
S
 
h
A
 
[
0
,
 
1
,
 
2
,
 
3
,
 
4
,
 
5
,
 
6
,
 
7
,
 
8
,
 
9
,
 
1
0
,
 
1
1
,
 
1
2
]
 
[
1
3
]
 
(
w
c
 
:
=
 
[
(
h
,
 
.
i
n
r
 
(
1
1
,
 
[
.
r
e
f
 
h
l
k
,
 
.
r
e
f
 
h
v
,
 
.
r
e
f
 
h
t
,
 
.
r
e
f
 
h
c
o
l
,
 
.
r
e
f
 
h
a
n
s
,
 
.
i
n
t
 
c
f
o
r
,
 
.
i
n
t
 
c
b
a
c
k
,
 
.
i
n
t
 
f
i
l
t
]
)
)
,
 
(
h
l
k
,
 
.
i
n
r
 
(
3
,
 
[
.
r
e
f
 
h
v
,
 
.
r
e
f
 
h
t
,
 
.
r
e
f
 
h
p
a
d
,
 
.
r
e
f
 
h
c
h
k
]
)
)
,
 
(
h
v
,
 
.
i
n
r
 
(
1
0
,
 
[
.
i
n
t
 
(
n
I
 
r
v
)
,
 
.
r
e
f
 
h
u
s
e
r
,
 
.
r
e
f
 
h
o
w
n
e
r
,
 
.
r
e
f
 
h
t
r
i
e
d
,
 
.
r
e
f
 
h
i
d
e
n
t
,
 
.
r
e
f
 
h
t
a
p
e
,
 
.
i
n
t
 
g
i
v
e
n
,
 
.
r
e
f
 
h
s
e
c
r
e
t
,
 
.
r
e
f
 
q
e
n
t
,
 
.
r
e
f
 
h
n
o
e
,
 
.
i
n
t
 
p
e
r
m
,
 
.
i
n
t
 
p
l
a
i
n
]
)
)
,
 
(
h
s
e
c
r
e
t
,
 
.
i
n
r
 
(
6
,
 
[
.
r
e
f
 
a
s
e
c
r
e
t
,
 
.
i
n
t
 
X
s
e
c
r
e
t
.
1
]
)
)
,
 
(
a
s
e
c
r
e
t
,
 
.
i
n
l
 
(
E
.
2
.
1
,
 
3
2
,
 
.
i
n
l
 
X
s
e
c
r
e
t
.
2
)
)
,
 
(
h
t
,
 
.
i
n
r
 
(
9
,
 
[
.
r
e
f
 
h
s
m
,
 
.
r
e
f
 
h
g
r
,
 
.
r
e
f
 
h
s
r
,
 
.
r
e
f
 
h
b
l
,
 
.
r
e
f
 
h
t
e
x
t
,
 
.
r
e
f
 
h
s
u
m
]
)
)
,
 
(
h
s
m
,
 
.
i
n
r
 
(
7
,
 
[
.
r
e
f
 
q
b
s
m
,
 
.
r
e
f
 
q
s
s
m
]
)
)
,
 
(
q
b
s
m
,
 
.
i
n
l
 
(
E
.
2
.
1
,
 
1
6
,
 
.
i
n
l
 
b
k
s
m
)
)
,
 
(
q
s
s
m
,
 
.
i
n
l
 
(
E
.
2
.
1
,
 
4
,
 
.
i
n
l
 
s
t
s
m
)
)
,
 
(
h
t
e
x
t
,
 
.
i
n
r
 
(
6
,
 
[
.
r
e
f
 
a
t
e
x
t
,
 
.
i
n
t
 
X
t
e
x
t
.
1
]
)
)
,
 
(
a
t
e
x
t
,
 
.
i
n
l
 
(
E
.
2
.
1
,
 
4
3
2
,
 
.
i
n
l
 
X
t
e
x
t
.
2
)
)
,
 
(
h
a
n
s
,
 
.
i
n
r
 
(
6
,
 
[
.
r
e
f
 
a
a
n
s
,
 
.
i
n
t
 
X
a
n
s
.
1
]
)
)
,
 
(
a
a
n
s
,
 
.
i
n
l
 
(
E
.
2
.
1
,
 
4
3
2
,
 
.
i
n
l
 
X
a
n
s
.
2
)
)
]
)
 
(
w
r
 
:
=
 
[
(
a
o
u
t
,
 
.
i
n
l
 
(
c
L
,
 
1
,
 
.
i
n
r
 
(
.
i
n
l
 
g
g
)
)
)
]
)
 
r
f
l
 
r
f
l
 
r
f
l
 
(
b
y
 
d
e
c
i
d
e
)
 
0
 
1
1
 
r
f
l
 
r
f
l
 
r
f
l
 
(
k
_
X
1
0
_
k
e
y
_
e
 
E
 
s
a
 
l
 
h
s
t
 
h
 
h
l
k
 
h
v
 
h
t
 
h
c
o
l
 
h
a
n
s
 
h
p
a
d
 
h
c
h
k
 
h
u
s
e
r
 
h
o
w
n
e
r
 
h
t
r
i
e
d
 
h
i
d
e
n
t
 
h
t
a
p
e
 
h
s
e
c
r
e
t
 
q
e
n
t
 
h
n
o
e
 
a
s
e
c
r
e
t
 
h
s
m
 
h
g
r
 
h
s
r
 
h
b
l
 
h
t
e
x
t
 
h
s
u
m
 
q
b
s
m
 
q
s
s
m
 
a
t
e
x
t
 
a
a
n
s
 
r
v
 
c
f
o
r
 
c
b
a
c
k
 
f
i
l
t
 
g
i
v
e
n
 
p
e
r
m
 
p
l
a
i
n
 
X
s
e
c
r
e
t
 
b
k
s
m
 
s
t
s
m
 
X
t
e
x
t
 
X
a
n
s
 
n
u
m
b
e
r
 
g
e
n
e
r
a
t
i
o
n
 
h
2
r
v
)
 
(
c
w
V
 
2
 
h
t
s
 
g
L
_
k
e
y
_
X
1
0
_
k
e
y
 
r
f
l
 
r
f
l
 
r
f
l
 
(
b
y
 
d
e
c
i
d
e
 
+
k
e
r
n
e
l
)
 
⟨
N
a
t
.
l
e
_
o
f
_
b
l
e
_
e
q
_
t
r
u
e
 
r
f
l
,
 
N
a
t
.
l
e
_
o
f
_
b
l
e
_
e
q
_
t
r
u
e
 
r
f
l
⟩
)
 
r
f
l
 
r
f
l
 
r
f
l
 
(
N
a
t
.
l
e
_
o
f
_
b
l
e
_
e
q
_
t
r
u
e
 
r
f
l
)
 
d
L
_
k
e
y
_
5
 
⟨
N
a
t
.
l
e
_
o
f
_
b
l
e
_
e
q
_
t
r
u
e
 
r
f
l
,
 
N
a
t
.
l
e
_
o
f
_
b
l
e
_
e
q
_
t
r
u
e
 
r
f
l
⟩
 
(
f
u
n
 
n
m
_
2
6
 
c
e
_
2
6
 
q
_
2
6
 
H
_
2
7
 
l
o
c
s
_
2
7
 
p
x
_
2
6
 
h
P
_
2
7
 
h
D
_
2
7
 
h
S
_
2
7
 
h
c
e
_
2
6
 
h
c
v
_
2
6
 
h
c
l
_
2
6
 
=
>
 
?
_
)
 
(
f
u
n
 
r
_
2
3
 
u
_
2
3
 
H
_
2
4
 
l
o
c
s
_
2
4
 
h
u
_
2
3
 
h
P
_
2
4
 
h
D
_
2
4
 
h
S
_
2
4
 
=
>
 
?
_
)


 
 
·
 
r
e
p
l
a
c
e
 
h
P
_
2
7
 
:
 
v
a
_
P
 
E
.
1
 
v
w
C
l
 
[
(
a
o
u
t
,
 
.
i
n
l
 
(
c
L
,
 
1
,
 
.
i
n
r
 
(
.
i
n
l
 
g
g
)
)
)
,
 
(
h
,
 
.
i
n
r
 
(
1
1
,
 
[
.
r
e
f
 
h
l
k
,
 
.
r
e
f
 
h
v
,
 
.
r
e
f
 
h
t
,
 
.
r
e
f
 
h
c
o
l
,
 
.
r
e
f
 
h
a
n
s
,
 
.
i
n
t
 
c
f
o
r
,
 
.
i
n
t
 
c
b
a
c
k
,
 
.
i
n
t
 
f
i
l
t
]
)
)
,
 
(
h
l
k
,
 
.
i
n
r
 
(
3
,
 
[
.
r
e
f
 
h
v
,
 
.
r
e
f
 
h
t
,
 
.
r
e
f
 
h
p
a
d
,
 
.
r
e
f
 
h
c
h
k
]
)
)
,
 
(
h
v
,
 
.
i
n
r
 
(
1
0
,
 
[
.
i
n
t
 
(
n
I
 
r
v
)
,
 
.
r
e
f
 
h
u
s
e
r
,
 
.
r
e
f
 
h
o
w
n
e
r
,
 
.
r
e
f
 
h
t
r
i
e
d
,
 
.
r
e
f
 
h
i
d
e
n
t
,
 
.
r
e
f
 
h
t
a
p
e
,
 
.
i
n
t
 
g
i
v
e
n
,
 
.
r
e
f
 
h
s
e
c
r
e
t
,
 
.
r
e
f
 
q
e
n
t
,
 
.
r
e
f
 
h
n
o
e
,
 
.
i
n
t
 
p
e
r
m
,
 
.
i
n
t
 
p
l
a
i
n
]
)
)
,
 
(
h
s
e
c
r
e
t
,
 
.
i
n
r
 
(
6
,
 
[
.
r
e
f
 
a
s
e
c
r
e
t
,
 
.
i
n
t
 
X
s
e
c
r
e
t
.
1
]
)
)
,
 
(
a
s
e
c
r
e
t
,
 
.
i
n
l
 
(
E
.
2
.
1
,
 
3
2
,
 
.
i
n
l
 
X
s
e
c
r
e
t
.
2
)
)
,
 
(
h
t
,
 
.
i
n
r
 
(
9
,
 
[
.
r
e
f
 
h
s
m
,
 
.
r
e
f
 
h
g
r
,
 
.
r
e
f
 
h
s
r
,
 
.
r
e
f
 
h
b
l
,
 
.
r
e
f
 
h
t
e
x
t
,
 
.
r
e
f
 
h
s
u
m
]
)
)
,
 
(
h
s
m
,
 
.
i
n
r
 
(
7
,
 
[
.
r
e
f
 
q
b
s
m
,
 
.
r
e
f
 
q
s
s
m
]
)
)
,
 
(
q
b
s
m
,
 
.
i
n
l
 
(
E
.
2
.
1
,
 
1
6
,
 
.
i
n
l
 
b
k
s
m
)
)
,
 
(
q
s
s
m
,
 
.
i
n
l
 
(
E
.
2
.
1
,
 
4
,
 
.
i
n
l
 
s
t
s
m
)
)
,
 
(
h
t
e
x
t
,
 
.
i
n
r
 
(
6
,
 
[
.
r
e
f
 
a
t
e
x
t
,
 
.
i
n
t
 
X
t
e
x
t
.
1
]
)
)
,
 
(
a
t
e
x
t
,
 
.
i
n
l
 
(
E
.
2
.
1
,
 
4
3
2
,
 
.
i
n
l
 
X
t
e
x
t
.
2
)
)
,
 
(
h
a
n
s
,
 
.
i
n
r
 
(
6
,
 
[
.
r
e
f
 
a
a
n
s
,
 
.
i
n
t
 
X
a
n
s
.
1
]
)
)
,
 
(
a
a
n
s
,
 
.
i
n
l
 
(
E
.
2
.
1
,
 
4
3
2
,
 
.
i
n
l
 
X
a
n
s
.
2
)
)
]
 
H
_
2
7
 
:
=
 
h
P
_
2
7


 
 
 
 
r
e
p
l
a
c
e
 
h
D
_
2
7
 
:
 
v
a
_
D
 
A
 
[
(
a
o
u
t
,
 
.
i
n
l
 
(
c
L
,
 
1
,
 
.
i
n
r
 
(
.
i
n
l
 
g
g
)
)
)
,
 
(
h
,
 
.
i
n
r
 
(
1
1
,
 
[
.
r
e
f
 
h
l
k
,
 
.
r
e
f
 
h
v
,
 
.
r
e
f
 
h
t
,
 
.
r
e
f
 
h
c
o
l
,
 
.
r
e
f
 
h
a
n
s
,
 
.
i
n
t
 
c
f
o
r
,
 
.
i
n
t
 
c
b
a
c
k
,
 
.
i
n
t
 
f
i
l
t
]
)
)
,
 
(
h
l
k
,
 
.
i
n
r
 
(
3
,
 
[
.
r
e
f
 
h
v
,
 
.
r
e
f
 
h
t
,
 
.
r
e
f
 
h
p
a
d
,
 
.
r
e
f
 
h
c
h
k
]
)
)
,
 
(
h
v
,
 
.
i
n
r
 
(
1
0
,
 
[
.
i
n
t
 
(
n
I
 
r
v
)
,
 
.
r
e
f
 
h
u
s
e
r
,
 
.
r
e
f
 
h
o
w
n
e
r
,
 
.
r
e
f
 
h
t
r
i
e
d
,
 
.
r
e
f
 
h
i
d
e
n
t
,
 
.
r
e
f
 
h
t
a
p
e
,
 
.
i
n
t
 
g
i
v
e
n
,
 
.
r
e
f
 
h
s
e
c
r
e
t
,
 
.
r
e
f
 
q
e
n
t
,
 
.
r
e
f
 
h
n
o
e
,
 
.
i
n
t
 
p
e
r
m
,
 
.
i
n
t
 
p
l
a
i
n
]
)
)
,
 
(
h
s
e
c
r
e
t
,
 
.
i
n
r
 
(
6
,
 
[
.
r
e
f
 
a
s
e
c
r
e
t
,
 
.
i
n
t
 
X
s
e
c
r
e
t
.
1
]
)
)
,
 
(
a
s
e
c
r
e
t
,
 
.
i
n
l
 
(
E
.
2
.
1
,
 
3
2
,
 
.
i
n
l
 
X
s
e
c
r
e
t
.
2
)
)
,
 
(
h
t
,
 
.
i
n
r
 
(
9
,
 
[
.
r
e
f
 
h
s
m
,
 
.
r
e
f
 
h
g
r
,
 
.
r
e
f
 
h
s
r
,
 
.
r
e
f
 
h
b
l
,
 
.
r
e
f
 
h
t
e
x
t
,
 
.
r
e
f
 
h
s
u
m
]
)
)
,
 
(
h
s
m
,
 
.
i
n
r
 
(
7
,
 
[
.
r
e
f
 
q
b
s
m
,
 
.
r
e
f
 
q
s
s
m
]
)
)
,
 
(
q
b
s
m
,
 
.
i
n
l
 
(
E
.
2
.
1
,
 
1
6
,
 
.
i
n
l
 
b
k
s
m
)
)
,
 
(
q
s
s
m
,
 
.
i
n
l
 
(
E
.
2
.
1
,
 
4
,
 
.
i
n
l
 
s
t
s
m
)
)
,
 
(
h
t
e
x
t
,
 
.
i
n
r
 
(
6
,
 
[
.
r
e
f
 
a
t
e
x
t
,
 
.
i
n
t
 
X
t
e
x
t
.
1
]
)
)
,
 
(
a
t
e
x
t
,
 
.
i
n
l
 
(
E
.
2
.
1
,
 
4
3
2
,
 
.
i
n
l
 
X
t
e
x
t
.
2
)
)
,
 
(
h
a
n
s
,
 
.
i
n
r
 
(
6
,
 
[
.
r
e
f
 
a
a
n
s
,
 
.
i
n
t
 
X
a
n
s
.
1
]
)
)
,
 
(
a
a
n
s
,
 
.
i
n
l
 
(
E
.
2
.
1
,
 
4
3
2
,
 
.
i
n
l
 
X
a
n
s
.
2
)
)
]
 
:
=
 
h
D
_
2
7


 
 
 
 
c
l
e
a
r
 
h
P
 
h
D
 
h
S


 
 
 
 
h
a
v
e
 
c
_
2
8
 
:
 
¬
 
t
_
2
5
.
1
 
=
 
0
 
:
=
 
b
y
 
r
w
 
[
h
t
_
2
5
]
;
 
e
x
a
c
t
 
p
x
_
2
6
.
2


 
 
 
 
h
a
v
e
 
c
_
2
9
 
:
 
t
_
2
5
.
1
 
=
 
3
 
:
=
 
b
y
 
h
a
v
e
 
q
9
 
:
=
 
L
c
_
X
1
0
_
k
e
y
_
e
 
_
 
_
 
_
 
_
 
_
 
_
 
_
 
_
;
 
r
w
 
[
←
 
h
t
_
2
5
]
 
a
t
 
q
9
;
 
o
m
e
g
a


 
 
 
 
o
b
t
a
i
n
 
r
f
l
 
:
 
n
m
_
2
6
 
=
 
"
j
a
v
a
/
l
a
n
g
/
I
l
l
e
g
a
l
S
t
a
t
e
E
x
c
e
p
t
i
o
n
"
 
:
=
 
p
x
_
2
6
.
1
.
t
r
a
n
s
 
(
b
y
 
r
w
 
[
←
 
h
t
_
2
5
,
 
c
_
2
9
]
;
 
r
f
l
)


 
 
 
 
r
e
f
i
n
e
 
v
x
_
c
a
t
c
h
 
h
o
w
n
 
[
]
 
⟨
0
,
 
1
0
,
 
1
3
,
 
2
6
⟩
 
[
]
 
(
b
y
 
r
w
 
[
h
t
a
b
]
;
 
r
f
l
)
 
(
f
u
n
 
z
 
h
9
 
=
>
 
a
b
s
u
r
d
 
h
9
 
L
i
s
t
.
n
o
t
_
m
e
m
_
n
i
l
)
 
(
b
y
 
d
e
c
i
d
e
)
 
(
b
y
 
d
e
c
i
d
e
)
 
w
_
0
 
(
v
a
_
N
w
.
u
s
e
 
r
f
l
 
(
h
X
.
2
.
1
 
(
.
c
a
s
t
a
b
l
e
 
"
j
a
v
a
/
l
a
n
g
/
I
l
l
e
g
a
l
S
t
a
t
e
E
x
c
e
p
t
i
o
n
"
 
"
j
a
v
a
/
l
a
n
g
/
I
l
l
e
g
a
l
S
t
a
t
e
E
x
c
e
p
t
i
o
n
"
)
 
(
b
y
 
d
e
c
i
d
e
 
+
k
e
r
n
e
l
)
)
)
 
h
c
e
_
2
6
 
h
c
v
_
2
6
 
h
c
l
_
2
6
 
?
_


 
 
 
 
r
e
f
i
n
e
 
l
v
_
a
s
t
o
r
e
 
(
l
v
'
 
:
=
 
[
(
4
,
 
.
r
e
f
 
q
_
2
6
)
,
 
(
0
,
 
.
r
e
f
 
h
)
,
 
(
1
,
 
.
i
n
t
 
n
u
m
b
e
r
)
,
 
(
2
,
 
.
i
n
t
 
g
e
n
e
r
a
t
i
o
n
)
,
 
(
3
,
 
.
r
e
f
 
a
o
u
t
)
]
)
 
h
x
 
h
b
 
d
L
_
k
e
y
_
1
3
 
h
l
 
(
b
y
 
d
e
c
i
d
e
)
 
r
f
l
 
(
f
u
n
 
l
s
_
3
0
 
h
l
_
3
0
 
=
>
 
?
_
)


 
 
 
 
c
l
e
a
r
 
h
l


 
 
 
 
r
e
f
i
n
e
 
l
v
_
i
c
o
n
s
t
 
(
v
 
:
=
 
1
)
 
h
x
 
h
b
 
d
L
_
k
e
y
_
1
5
 
(
b
y
 
d
e
c
i
d
e
)
 
?
_


 
 
 
 
r
e
f
i
n
e
 
v
x
_
r
e
t
 
?
_


 
 
 
 
h
a
v
e
 
h
p
o
s
t
 
:
 
(
(
1
,
 
(
b
k
s
m
,
 
s
t
s
m
,
 
X
t
e
x
t
,
 
X
a
n
s
,
 
g
g
)
)
 
:
 
I
n
t
3
2
 
×
 
(
(
N
a
t
 
→
 
I
n
t
3
2
)
 
×
 
(
N
a
t
 
→
 
I
n
t
3
2
)
 
×
 
g
R
o
w
 
×
 
g
R
o
w
 
×
 
(
N
a
t
 
→
 
I
n
t
6
4
)
)
)
 
=
 
F
_
L
_
k
e
y
_
e
 
f
i
l
t
 
X
s
e
c
r
e
t
 
b
k
s
m
 
s
t
s
m
 
X
t
e
x
t
 
X
a
n
s
 
g
g
 
n
u
m
b
e
r
 
g
e
n
e
r
a
t
i
o
n
 
:
=
 
(
s
h
o
w
 
F
_
L
_
k
e
y
_
e
 
f
i
l
t
 
X
s
e
c
r
e
t
 
b
k
s
m
 
s
t
s
m
 
X
t
e
x
t
 
X
a
n
s
 
g
g
 
n
u
m
b
e
r
 
g
e
n
e
r
a
t
i
o
n
 
=
 
(
(
1
,
 
(
b
k
s
m
,
 
s
t
s
m
,
 
X
t
e
x
t
,
 
X
a
n
s
,
 
g
g
)
)
 
:
 
I
n
t
3
2
 
×
 
(
(
N
a
t
 
→
 
I
n
t
3
2
)
 
×
 
(
N
a
t
 
→
 
I
n
t
3
2
)
 
×
 
g
R
o
w
 
×
 
g
R
o
w
 
×
 
(
N
a
t
 
→
 
I
n
t
6
4
)
)
)
 
f
r
o
m
 
(
g
L
e
t
_
e
q
 
h
t
_
2
5
 
(
(
i
f
_
n
e
g
 
c
_
2
8
)
.
t
r
a
n
s
 
r
f
l
)
)
)
.
s
y
m
m


 
 
 
 
h
a
v
e
 
h
P
9
 
:
=
 
h
P
_
2
7
.
s
u
b
 
(
w
s
'
 
:
=
 
[
(
h
,
 
.
i
n
r
 
(
1
1
,
 
[
.
r
e
f
 
h
l
k
,
 
.
r
e
f
 
h
v
,
 
.
r
e
f
 
h
t
,
 
.
r
e
f
 
h
c
o
l
,
 
.
r
e
f
 
h
a
n
s
,
 
.
i
n
t
 
c
f
o
r
,
 
.
i
n
t
 
c
b
a
c
k
,
 
.
i
n
t
 
f
i
l
t
]
)
)
,
 
(
h
l
k
,
 
.
i
n
r
 
(
3
,
 
[
.
r
e
f
 
h
v
,
 
.
r
e
f
 
h
t
,
 
.
r
e
f
 
h
p
a
d
,
 
.
r
e
f
 
h
c
h
k
]
)
)
,
 
(
h
v
,
 
.
i
n
r
 
(
1
0
,
 
[
.
i
n
t
 
(
n
I
 
r
v
)
,
 
.
r
e
f
 
h
u
s
e
r
,
 
.
r
e
f
 
h
o
w
n
e
r
,
 
.
r
e
f
 
h
t
r
i
e
d
,
 
.
r
e
f
 
h
i
d
e
n
t
,
 
.
r
e
f
 
h
t
a
p
e
,
 
.
i
n
t
 
g
i
v
e
n
,
 
.
r
e
f
 
h
s
e
c
r
e
t
,
 
.
r
e
f
 
q
e
n
t
,
 
.
r
e
f
 
h
n
o
e
,
 
.
i
n
t
 
p
e
r
m
,
 
.
i
n
t
 
p
l
a
i
n
]
)
)
,
 
(
h
s
e
c
r
e
t
,
 
.
i
n
r
 
(
6
,
 
[
.
r
e
f
 
a
s
e
c
r
e
t
,
 
.
i
n
t
 
X
s
e
c
r
e
t
.
1
]
)
)
,
 
(
a
s
e
c
r
e
t
,
 
.
i
n
l
 
(
E
.
2
.
1
,
 
3
2
,
 
.
i
n
l
 
X
s
e
c
r
e
t
.
2
)
)
,
 
(
h
t
,
 
.
i
n
r
 
(
9
,
 
[
.
r
e
f
 
h
s
m
,
 
.
r
e
f
 
h
g
r
,
 
.
r
e
f
 
h
s
r
,
 
.
r
e
f
 
h
b
l
,
 
.
r
e
f
 
h
t
e
x
t
,
 
.
r
e
f
 
h
s
u
m
]
)
)
,
 
(
h
s
m
,
 
.
i
n
r
 
(
7
,
 
[
.
r
e
f
 
q
b
s
m
,
 
.
r
e
f
 
q
s
s
m
]
)
)
,
 
(
q
b
s
m
,
 
.
i
n
l
 
(
E
.
2
.
1
,
 
1
6
,
 
.
i
n
l
 
b
k
s
m
)
)
,
 
(
q
s
s
m
,
 
.
i
n
l
 
(
E
.
2
.
1
,
 
4
,
 
.
i
n
l
 
s
t
s
m
)
)
,
 
(
h
t
e
x
t
,
 
.
i
n
r
 
(
6
,
 
[
.
r
e
f
 
a
t
e
x
t
,
 
.
i
n
t
 
X
t
e
x
t
.
1
]
)
)
,
 
(
a
t
e
x
t
,
 
.
i
n
l
 
(
E
.
2
.
1
,
 
4
3
2
,
 
.
i
n
l
 
X
t
e
x
t
.
2
)
)
,
 
(
h
a
n
s
,
 
.
i
n
r
 
(
6
,
 
[
.
r
e
f
 
a
a
n
s
,
 
.
i
n
t
 
X
a
n
s
.
1
]
)
)
,
 
(
a
a
n
s
,
 
.
i
n
l
 
(
E
.
2
.
1
,
 
4
3
2
,
 
.
i
n
l
 
X
a
n
s
.
2
)
)
,
 
(
a
o
u
t
,
 
.
i
n
l
 
(
c
L
,
 
1
,
 
.
i
n
r
 
(
.
i
n
l
 
g
g
)
)
)
]
)
 
[
1
,
 
2
,
 
3
,
 
4
,
 
5
,
 
6
,
 
7
,
 
8
,
 
9
,
 
1
0
,
 
1
1
,
 
1
2
,
 
1
3
,
 
0
]
 
r
f
l


 
 
 
 
h
a
v
e
 
h
D
9
 
:
=
 
h
D
_
2
7
.
s
u
b
 
(
w
s
'
 
:
=
 
[
(
h
,
 
.
i
n
r
 
(
1
1
,
 
[
.
r
e
f
 
h
l
k
,
 
.
r
e
f
 
h
v
,
 
.
r
e
f
 
h
t
,
 
.
r
e
f
 
h
c
o
l
,
 
.
r
e
f
 
h
a
n
s
,
 
.
i
n
t
 
c
f
o
r
,
 
.
i
n
t
 
c
b
a
c
k
,
 
.
i
n
t
 
f
i
l
t
]
)
)
,
 
(
h
l
k
,
 
.
i
n
r
 
(
3
,
 
[
.
r
e
f
 
h
v
,
 
.
r
e
f
 
h
t
,
 
.
r
e
f
 
h
p
a
d
,
 
.
r
e
f
 
h
c
h
k
]
)
)
,
 
(
h
v
,
 
.
i
n
r
 
(
1
0
,
 
[
.
i
n
t
 
(
n
I
 
r
v
)
,
 
.
r
e
f
 
h
u
s
e
r
,
 
.
r
e
f
 
h
o
w
n
e
r
,
 
.
r
e
f
 
h
t
r
i
e
d
,
 
.
r
e
f
 
h
i
d
e
n
t
,
 
.
r
e
f
 
h
t
a
p
e
,
 
.
i
n
t
 
g
i
v
e
n
,
 
.
r
e
f
 
h
s
e
c
r
e
t
,
 
.
r
e
f
 
q
e
n
t
,
 
.
r
e
f
 
h
n
o
e
,
 
.
i
n
t
 
p
e
r
m
,
 
.
i
n
t
 
p
l
a
i
n
]
)
)
,
 
(
h
s
e
c
r
e
t
,
 
.
i
n
r
 
(
6
,
 
[
.
r
e
f
 
a
s
e
c
r
e
t
,
 
.
i
n
t
 
X
s
e
c
r
e
t
.
1
]
)
)
,
 
(
a
s
e
c
r
e
t
,
 
.
i
n
l
 
(
E
.
2
.
1
,
 
3
2
,
 
.
i
n
l
 
X
s
e
c
r
e
t
.
2
)
)
,
 
(
h
t
,
 
.
i
n
r
 
(
9
,
 
[
.
r
e
f
 
h
s
m
,
 
.
r
e
f
 
h
g
r
,
 
.
r
e
f
 
h
s
r
,
 
.
r
e
f
 
h
b
l
,
 
.
r
e
f
 
h
t
e
x
t
,
 
.
r
e
f
 
h
s
u
m
]
)
)
,
 
(
h
s
m
,
 
.
i
n
r
 
(
7
,
 
[
.
r
e
f
 
q
b
s
m
,
 
.
r
e
f
 
q
s
s
m
]
)
)
,
 
(
q
b
s
m
,
 
.
i
n
l
 
(
E
.
2
.
1
,
 
1
6
,
 
.
i
n
l
 
b
k
s
m
)
)
,
 
(
q
s
s
m
,
 
.
i
n
l
 
(
E
.
2
.
1
,
 
4
,
 
.
i
n
l
 
s
t
s
m
)
)
,
 
(
h
t
e
x
t
,
 
.
i
n
r
 
(
6
,
 
[
.
r
e
f
 
a
t
e
x
t
,
 
.
i
n
t
 
X
t
e
x
t
.
1
]
)
)
,
 
(
a
t
e
x
t
,
 
.
i
n
l
 
(
E
.
2
.
1
,
 
4
3
2
,
 
.
i
n
l
 
X
t
e
x
t
.
2
)
)
,
 
(
h
a
n
s
,
 
.
i
n
r
 
(
6
,
 
[
.
r
e
f
 
a
a
n
s
,
 
.
i
n
t
 
X
a
n
s
.
1
]
)
)
,
 
(
a
a
n
s
,
 
.
i
n
l
 
(
E
.
2
.
1
,
 
4
3
2
,
 
.
i
n
l
 
X
a
n
s
.
2
)
)
,
 
(
a
o
u
t
,
 
.
i
n
l
 
(
c
L
,
 
1
,
 
.
i
n
r
 
(
.
i
n
l
 
g
g
)
)
)
]
)
 
[
1
,
 
2
,
 
3
,
 
4
,
 
5
,
 
6
,
 
7
,
 
8
,
 
9
,
 
1
0
,
 
1
1
,
 
1
2
,
 
1
3
,
 
0
]
 
(
b
y
 
d
e
c
i
d
e
)
 
r
f
l


 
 
 
 
e
x
a
c
t
 
W
.
i
r
e
t
 
(
v
 
:
=
 
1
)
 
h
x
 
h
b
 
h
r
 
(
f
u
n
 
t
 
h
t
 
h
W
 
=
>
 
⟨
⟨
1
,
 
(
b
k
s
m
,
 
s
t
s
m
,
 
X
t
e
x
t
,
 
X
a
n
s
,
 
g
g
)
,
 
r
f
l
,
 
⟨
c
o
n
g
r
A
r
g
 
P
r
o
d
.
f
s
t
 
h
p
o
s
t
,
 
c
o
n
g
r
A
r
g
 
P
r
o
d
.
s
n
d
 
h
p
o
s
t
⟩
,
 
b
y
 
r
w
 
[
h
t
]
;
 
e
x
a
c
t
 
h
P
9
,
 
h
D
9
⟩
,
 
h
S
_
2
7
.
F
 
h
t
⟩
)
 
h
S
_
2
7
.
2
.
2
 
d
L
_
k
e
y
_
1
6


 
 
·
 
h
a
v
e
 
e
_
3
2
 
:
 
t
_
2
5
 
=
 
(
(
0
,
 
(
r
_
2
3
,
 
u
_
2
3
)
)
 
:
 
N
a
t
 
×
 
(
I
n
t
3
2
 
×
 
(
(
N
a
t
 
→
 
I
n
t
3
2
)
 
×
 
(
N
a
t
 
→
 
I
n
t
3
2
)
 
×
 
g
R
o
w
 
×
 
g
R
o
w
)
)
)
 
:
=
 
h
t
_
2
5
.
t
r
a
n
s
 
h
u
_
2
3
.
s
y
m
m


 
 
 
 
h
a
v
e
 
c
_
3
1
 
:
 
t
_
2
5
.
1
 
=
 
0
 
:
=
 
b
y
 
r
w
 
[
e
_
3
2
]


 
 
 
 
o
b
t
a
i
n
 
r
f
l
 
:
 
r
_
2
3
 
=
 
t
_
2
5
.
2
.
1
 
:
=
 
(
c
o
n
g
r
A
r
g
 
(
f
u
n
 
z
 
:
 
N
a
t
 
×
 
(
I
n
t
3
2
 
×
 
(
(
N
a
t
 
→
 
I
n
t
3
2
)
 
×
 
(
N
a
t
 
→
 
I
n
t
3
2
)
 
×
 
g
R
o
w
 
×
 
g
R
o
w
)
)
 
=
>
 
z
.
2
.
1
)
 
e
_
3
2
)
.
s
y
m
m


 
 
 
 
o
b
t
a
i
n
 
r
f
l
 
:
 
u
_
2
3
 
=
 
t
_
2
5
.
2
.
2
 
:
=
 
(
c
o
n
g
r
A
r
g
 
(
f
u
n
 
z
 
:
 
N
a
t
 
×
 
(
I
n
t
3
2
 
×
 
(
(
N
a
t
 
→
 
I
n
t
3
2
)
 
×
 
(
N
a
t
 
→
 
I
n
t
3
2
)
 
×
 
g
R
o
w
 
×
 
g
R
o
w
)
)
 
=
>
 
z
.
2
.
2
)
 
e
_
3
2
)
.
s
y
m
m


 
 
 
 
r
e
p
l
a
c
e
 
h
P
_
2
4
 
:
 
v
a
_
P
 
E
.
1
 
v
w
C
l
 
[
(
a
o
u
t
,
 
.
i
n
l
 
(
c
L
,
 
1
,
 
.
i
n
r
 
(
.
i
n
l
 
g
g
)
)
)
,
 
(
h
,
 
.
i
n
r
 
(
1
1
,
 
[
.
r
e
f
 
h
l
k
,
 
.
r
e
f
 
h
v
,
 
.
r
e
f
 
h
t
,
 
.
r
e
f
 
h
c
o
l
,
 
.
r
e
f
 
h
a
n
s
,
 
.
i
n
t
 
c
f
o
r
,
 
.
i
n
t
 
c
b
a
c
k
,
 
.
i
n
t
 
f
i
l
t
]
)
)
,
 
(
h
l
k
,
 
.
i
n
r
 
(
3
,
 
[
.
r
e
f
 
h
v
,
 
.
r
e
f
 
h
t
,
 
.
r
e
f
 
h
p
a
d
,
 
.
r
e
f
 
h
c
h
k
]
)
)
,
 
(
h
v
,
 
.
i
n
r
 
(
1
0
,
 
[
.
i
n
t
 
(
n
I
 
r
v
)
,
 
.
r
e
f
 
h
u
s
e
r
,
 
.
r
e
f
 
h
o
w
n
e
r
,
 
.
r
e
f
 
h
t
r
i
e
d
,
 
.
r
e
f
 
h
i
d
e
n
t
,
 
.
r
e
f
 
h
t
a
p
e
,
 
.
i
n
t
 
g
i
v
e
n
,
 
.
r
e
f
 
h
s
e
c
r
e
t
,
 
.
r
e
f
 
q
e
n
t
,
 
.
r
e
f
 
h
n
o
e
,
 
.
i
n
t
 
p
e
r
m
,
 
.
i
n
t
 
p
l
a
i
n
]
)
)
,
 
(
h
s
e
c
r
e
t
,
 
.
i
n
r
 
(
6
,
 
[
.
r
e
f
 
a
s
e
c
r
e
t
,
 
.
i
n
t
 
X
s
e
c
r
e
t
.
1
]
)
)
,
 
(
a
s
e
c
r
e
t
,
 
.
i
n
l
 
(
E
.
2
.
1
,
 
3
2
,
 
.
i
n
l
 
X
s
e
c
r
e
t
.
2
)
)
,
 
(
h
t
,
 
.
i
n
r
 
(
9
,
 
[
.
r
e
f
 
h
s
m
,
 
.
r
e
f
 
h
g
r
,
 
.
r
e
f
 
h
s
r
,
 
.
r
e
f
 
h
b
l
,
 
.
r
e
f
 
h
t
e
x
t
,
 
.
r
e
f
 
h
s
u
m
]
)
)
,
 
(
h
s
m
,
 
.
i
n
r
 
(
7
,
 
[
.
r
e
f
 
q
b
s
m
,
 
.
r
e
f
 
q
s
s
m
]
)
)
,
 
(
q
b
s
m
,
 
.
i
n
l
 
(
E
.
2
.
1
,
 
1
6
,
 
.
i
n
l
 
t
_
2
5
.
2
.
2
.
1
)
)
,
 
(
q
s
s
m
,
 
.
i
n
l
 
(
E
.
2
.
1
,
 
4
,
 
.
i
n
l
 
t
_
2
5
.
2
.
2
.
2
.
1
)
)
,
 
(
h
t
e
x
t
,
 
.
i
n
r
 
(
6
,
 
[
.
r
e
f
 
a
t
e
x
t
,
 
.
i
n
t
 
t
_
2
5
.
2
.
2
.
2
.
2
.
1
.
1
]
)
)
,
 
(
a
t
e
x
t
,
 
.
i
n
l
 
(
E
.
2
.
1
,
 
4
3
2
,
 
.
i
n
l
 
t
_
2
5
.
2
.
2
.
2
.
2
.
1
.
2
)
)
,
 
(
h
a
n
s
,
 
.
i
n
r
 
(
6
,
 
[
.
r
e
f
 
a
a
n
s
,
 
.
i
n
t
 
t
_
2
5
.
2
.
2
.
2
.
2
.
2
.
1
]
)
)
,
 
(
a
a
n
s
,
 
.
i
n
l
 
(
E
.
2
.
1
,
 
4
3
2
,
 
.
i
n
l
 
t
_
2
5
.
2
.
2
.
2
.
2
.
2
.
2
)
)
]
 
H
_
2
4
 
:
=
 
h
P
_
2
4


 
 
 
 
r
e
p
l
a
c
e
 
h
D
_
2
4
 
:
 
v
a
_
D
 
A
 
[
(
a
o
u
t
,
 
.
i
n
l
 
(
c
L
,
 
1
,
 
.
i
n
r
 
(
.
i
n
l
 
g
g
)
)
)
,
 
(
h
,
 
.
i
n
r
 
(
1
1
,
 
[
.
r
e
f
 
h
l
k
,
 
.
r
e
f
 
h
v
,
 
.
r
e
f
 
h
t
,
 
.
r
e
f
 
h
c
o
l
,
 
.
r
e
f
 
h
a
n
s
,
 
.
i
n
t
 
c
f
o
r
,
 
.
i
n
t
 
c
b
a
c
k
,
 
.
i
n
t
 
f
i
l
t
]
)
)
,
 
(
h
l
k
,
 
.
i
n
r
 
(
3
,
 
[
.
r
e
f
 
h
v
,
 
.
r
e
f
 
h
t
,
 
.
r
e
f
 
h
p
a
d
,
 
.
r
e
f
 
h
c
h
k
]
)
)
,
 
(
h
v
,
 
.
i
n
r
 
(
1
0
,
 
[
.
i
n
t
 
(
n
I
 
r
v
)
,
 
.
r
e
f
 
h
u
s
e
r
,
 
.
r
e
f
 
h
o
w
n
e
r
,
 
.
r
e
f
 
h
t
r
i
e
d
,
 
.
r
e
f
 
h
i
d
e
n
t
,
 
.
r
e
f
 
h
t
a
p
e
,
 
.
i
n
t
 
g
i
v
e
n
,
 
.
r
e
f
 
h
s
e
c
r
e
t
,
 
.
r
e
f
 
q
e
n
t
,
 
.
r
e
f
 
h
n
o
e
,
 
.
i
n
t
 
p
e
r
m
,
 
.
i
n
t
 
p
l
a
i
n
]
)
)
,
 
(
h
s
e
c
r
e
t
,
 
.
i
n
r
 
(
6
,
 
[
.
r
e
f
 
a
s
e
c
r
e
t
,
 
.
i
n
t
 
X
s
e
c
r
e
t
.
1
]
)
)
,
 
(
a
s
e
c
r
e
t
,
 
.
i
n
l
 
(
E
.
2
.
1
,
 
3
2
,
 
.
i
n
l
 
X
s
e
c
r
e
t
.
2
)
)
,
 
(
h
t
,
 
.
i
n
r
 
(
9
,
 
[
.
r
e
f
 
h
s
m
,
 
.
r
e
f
 
h
g
r
,
 
.
r
e
f
 
h
s
r
,
 
.
r
e
f
 
h
b
l
,
 
.
r
e
f
 
h
t
e
x
t
,
 
.
r
e
f
 
h
s
u
m
]
)
)
,
 
(
h
s
m
,
 
.
i
n
r
 
(
7
,
 
[
.
r
e
f
 
q
b
s
m
,
 
.
r
e
f
 
q
s
s
m
]
)
)
,
 
(
q
b
s
m
,
 
.
i
n
l
 
(
E
.
2
.
1
,
 
1
6
,
 
.
i
n
l
 
t
_
2
5
.
2
.
2
.
1
)
)
,
 
(
q
s
s
m
,
 
.
i
n
l
 
(
E
.
2
.
1
,
 
4
,
 
.
i
n
l
 
t
_
2
5
.
2
.
2
.
2
.
1
)
)
,
 
(
h
t
e
x
t
,
 
.
i
n
r
 
(
6
,
 
[
.
r
e
f
 
a
t
e
x
t
,
 
.
i
n
t
 
t
_
2
5
.
2
.
2
.
2
.
2
.
1
.
1
]
)
)
,
 
(
a
t
e
x
t
,
 
.
i
n
l
 
(
E
.
2
.
1
,
 
4
3
2
,
 
.
i
n
l
 
t
_
2
5
.
2
.
2
.
2
.
2
.
1
.
2
)
)
,
 
(
h
a
n
s
,
 
.
i
n
r
 
(
6
,
 
[
.
r
e
f
 
a
a
n
s
,
 
.
i
n
t
 
t
_
2
5
.
2
.
2
.
2
.
2
.
2
.
1
]
)
)
,
 
(
a
a
n
s
,
 
.
i
n
l
 
(
E
.
2
.
1
,
 
4
3
2
,
 
.
i
n
l
 
t
_
2
5
.
2
.
2
.
2
.
2
.
2
.
2
)
)
]
 
:
=
 
h
D
_
2
4


 
 
 
 
c
l
e
a
r
 
h
P
 
h
D
 
h
S


 
 
 
 
r
e
f
i
n
e
 
l
v
_
i
2
l
 
(
v
 
:
=
 
t
_
2
5
.
2
.
1
.
t
o
I
n
t
6
4
)
 
h
x
 
h
b
 
d
L
_
k
e
y
_
8
 
r
f
l
 
?
_


 
 
 
 
r
e
f
i
n
e
 
v
a
_
l
a
s
t
 
h
x
 
h
b
 
h
L
 
h
P
_
2
4
 
h
D
_
2
4
 
h
S
_
2
4
 
0
 
2
 
r
f
l
 
r
f
l
 
(
b
y
 
d
e
c
i
d
e
)
 
d
L
_
k
e
y
_
9
 
(
f
u
n
 
H
_
3
3
 
l
o
c
s
_
3
3
 
h
P
_
3
3
 
h
D
_
3
3
 
h
S
_
3
3
 
=
>
 
?
_
)


 
 
 
 
r
e
p
l
a
c
e
 
h
P
_
3
3
 
:
 
v
a
_
P
 
E
.
1
 
v
w
C
l
 
[
(
a
o
u
t
,
 
.
i
n
l
 
(
c
L
,
 
1
,
 
.
i
n
r
 
(
.
i
n
l
 
(
v
p
_
u
p
d
L
 
g
g
 
(
0
 
:
 
I
n
t
3
2
)
.
t
o
N
a
t
C
l
a
m
p
N
e
g
 
(
t
_
2
5
.
2
.
1
.
t
o
I
n
t
6
4
)
)
)
)
)
,
 
(
h
,
 
.
i
n
r
 
(
1
1
,
 
[
.
r
e
f
 
h
l
k
,
 
.
r
e
f
 
h
v
,
 
.
r
e
f
 
h
t
,
 
.
r
e
f
 
h
c
o
l
,
 
.
r
e
f
 
h
a
n
s
,
 
.
i
n
t
 
c
f
o
r
,
 
.
i
n
t
 
c
b
a
c
k
,
 
.
i
n
t
 
f
i
l
t
]
)
)
,
 
(
h
l
k
,
 
.
i
n
r
 
(
3
,
 
[
.
r
e
f
 
h
v
,
 
.
r
e
f
 
h
t
,
 
.
r
e
f
 
h
p
a
d
,
 
.
r
e
f
 
h
c
h
k
]
)
)
,
 
(
h
v
,
 
.
i
n
r
 
(
1
0
,
 
[
.
i
n
t
 
(
n
I
 
r
v
)
,
 
.
r
e
f
 
h
u
s
e
r
,
 
.
r
e
f
 
h
o
w
n
e
r
,
 
.
r
e
f
 
h
t
r
i
e
d
,
 
.
r
e
f
 
h
i
d
e
n
t
,
 
.
r
e
f
 
h
t
a
p
e
,
 
.
i
n
t
 
g
i
v
e
n
,
 
.
r
e
f
 
h
s
e
c
r
e
t
,
 
.
r
e
f
 
q
e
n
t
,
 
.
r
e
f
 
h
n
o
e
,
 
.
i
n
t
 
p
e
r
m
,
 
.
i
n
t
 
p
l
a
i
n
]
)
)
,
 
(
h
s
e
c
r
e
t
,
 
.
i
n
r
 
(
6
,
 
[
.
r
e
f
 
a
s
e
c
r
e
t
,
 
.
i
n
t
 
X
s
e
c
r
e
t
.
1
]
)
)
,
 
(
a
s
e
c
r
e
t
,
 
.
i
n
l
 
(
E
.
2
.
1
,
 
3
2
,
 
.
i
n
l
 
X
s
e
c
r
e
t
.
2
)
)
,
 
(
h
t
,
 
.
i
n
r
 
(
9
,
 
[
.
r
e
f
 
h
s
m
,
 
.
r
e
f
 
h
g
r
,
 
.
r
e
f
 
h
s
r
,
 
.
r
e
f
 
h
b
l
,
 
.
r
e
f
 
h
t
e
x
t
,
 
.
r
e
f
 
h
s
u
m
]
)
)
,
 
(
h
s
m
,
 
.
i
n
r
 
(
7
,
 
[
.
r
e
f
 
q
b
s
m
,
 
.
r
e
f
 
q
s
s
m
]
)
)
,
 
(
q
b
s
m
,
 
.
i
n
l
 
(
E
.
2
.
1
,
 
1
6
,
 
.
i
n
l
 
t
_
2
5
.
2
.
2
.
1
)
)
,
 
(
q
s
s
m
,
 
.
i
n
l
 
(
E
.
2
.
1
,
 
4
,
 
.
i
n
l
 
t
_
2
5
.
2
.
2
.
2
.
1
)
)
,
 
(
h
t
e
x
t
,
 
.
i
n
r
 
(
6
,
 
[
.
r
e
f
 
a
t
e
x
t
,
 
.
i
n
t
 
t
_
2
5
.
2
.
2
.
2
.
2
.
1
.
1
]
)
)
,
 
(
a
t
e
x
t
,
 
.
i
n
l
 
(
E
.
2
.
1
,
 
4
3
2
,
 
.
i
n
l
 
t
_
2
5
.
2
.
2
.
2
.
2
.
1
.
2
)
)
,
 
(
h
a
n
s
,
 
.
i
n
r
 
(
6
,
 
[
.
r
e
f
 
a
a
n
s
,
 
.
i
n
t
 
t
_
2
5
.
2
.
2
.
2
.
2
.
2
.
1
]
)
)
,
 
(
a
a
n
s
,
 
.
i
n
l
 
(
E
.
2
.
1
,
 
4
3
2
,
 
.
i
n
l
 
t
_
2
5
.
2
.
2
.
2
.
2
.
2
.
2
)
)
]
 
H
_
3
3
 
:
=
 
h
P
_
3
3


 
 
 
 
r
e
p
l
a
c
e
 
h
D
_
3
3
 
:
 
v
a
_
D
 
A
 
[
(
a
o
u
t
,
 
.
i
n
l
 
(
c
L
,
 
1
,
 
.
i
n
r
 
(
.
i
n
l
 
(
v
p
_
u
p
d
L
 
g
g
 
(
0
 
:
 
I
n
t
3
2
)
.
t
o
N
a
t
C
l
a
m
p
N
e
g
 
(
t
_
2
5
.
2
.
1
.
t
o
I
n
t
6
4
)
)
)
)
)
,
 
(
h
,
 
.
i
n
r
 
(
1
1
,
 
[
.
r
e
f
 
h
l
k
,
 
.
r
e
f
 
h
v
,
 
.
r
e
f
 
h
t
,
 
.
r
e
f
 
h
c
o
l
,
 
.
r
e
f
 
h
a
n
s
,
 
.
i
n
t
 
c
f
o
r
,
 
.
i
n
t
 
c
b
a
c
k
,
 
.
i
n
t
 
f
i
l
t
]
)
)
,
 
(
h
l
k
,
 
.
i
n
r
 
(
3
,
 
[
.
r
e
f
 
h
v
,
 
.
r
e
f
 
h
t
,
 
.
r
e
f
 
h
p
a
d
,
 
.
r
e
f
 
h
c
h
k
]
)
)
,
 
(
h
v
,
 
.
i
n
r
 
(
1
0
,
 
[
.
i
n
t
 
(
n
I
 
r
v
)
,
 
.
r
e
f
 
h
u
s
e
r
,
 
.
r
e
f
 
h
o
w
n
e
r
,
 
.
r
e
f
 
h
t
r
i
e
d
,
 
.
r
e
f
 
h
i
d
e
n
t
,
 
.
r
e
f
 
h
t
a
p
e
,
 
.
i
n
t
 
g
i
v
e
n
,
 
.
r
e
f
 
h
s
e
c
r
e
t
,
 
.
r
e
f
 
q
e
n
t
,
 
.
r
e
f
 
h
n
o
e
,
 
.
i
n
t
 
p
e
r
m
,
 
.
i
n
t
 
p
l
a
i
n
]
)
)
,
 
(
h
s
e
c
r
e
t
,
 
.
i
n
r
 
(
6
,
 
[
.
r
e
f
 
a
s
e
c
r
e
t
,
 
.
i
n
t
 
X
s
e
c
r
e
t
.
1
]
)
)
,
 
(
a
s
e
c
r
e
t
,
 
.
i
n
l
 
(
E
.
2
.
1
,
 
3
2
,
 
.
i
n
l
 
X
s
e
c
r
e
t
.
2
)
)
,
 
(
h
t
,
 
.
i
n
r
 
(
9
,
 
[
.
r
e
f
 
h
s
m
,
 
.
r
e
f
 
h
g
r
,
 
.
r
e
f
 
h
s
r
,
 
.
r
e
f
 
h
b
l
,
 
.
r
e
f
 
h
t
e
x
t
,
 
.
r
e
f
 
h
s
u
m
]
)
)
,
 
(
h
s
m
,
 
.
i
n
r
 
(
7
,
 
[
.
r
e
f
 
q
b
s
m
,
 
.
r
e
f
 
q
s
s
m
]
)
)
,
 
(
q
b
s
m
,
 
.
i
n
l
 
(
E
.
2
.
1
,
 
1
6
,
 
.
i
n
l
 
t
_
2
5
.
2
.
2
.
1
)
)
,
 
(
q
s
s
m
,
 
.
i
n
l
 
(
E
.
2
.
1
,
 
4
,
 
.
i
n
l
 
t
_
2
5
.
2
.
2
.
2
.
1
)
)
,
 
(
h
t
e
x
t
,
 
.
i
n
r
 
(
6
,
 
[
.
r
e
f
 
a
t
e
x
t
,
 
.
i
n
t
 
t
_
2
5
.
2
.
2
.
2
.
2
.
1
.
1
]
)
)
,
 
(
a
t
e
x
t
,
 
.
i
n
l
 
(
E
.
2
.
1
,
 
4
3
2
,
 
.
i
n
l
 
t
_
2
5
.
2
.
2
.
2
.
2
.
1
.
2
)
)
,
 
(
h
a
n
s
,
 
.
i
n
r
 
(
6
,
 
[
.
r
e
f
 
a
a
n
s
,
 
.
i
n
t
 
t
_
2
5
.
2
.
2
.
2
.
2
.
2
.
1
]
)
)
,
 
(
a
a
n
s
,
 
.
i
n
l
 
(
E
.
2
.
1
,
 
4
3
2
,
 
.
i
n
l
 
t
_
2
5
.
2
.
2
.
2
.
2
.
2
.
2
)
)
]
 
:
=
 
h
D
_
3
3


 
 
 
 
c
l
e
a
r
 
h
P
_
2
4
 
h
D
_
2
4
 
h
S
_
2
4


 
 
 
 
r
e
f
i
n
e
 
l
v
_
g
o
t
o
 
(
t
g
t
 
:
=
 
1
7
)
 
h
x
 
h
b
 
d
L
_
k
e
y
_
1
0
 
(
b
y
 
d
e
c
i
d
e
)
 
?
_


 
 
 
 
r
e
f
i
n
e
 
l
v
_
i
c
o
n
s
t
 
(
v
 
:
=
 
0
)
 
h
x
 
h
b
 
d
L
_
k
e
y
_
1
7
 
(
b
y
 
d
e
c
i
d
e
)
 
?
_


 
 
 
 
r
e
f
i
n
e
 
v
x
_
r
e
t
 
?
_


 
 
 
 
h
a
v
e
 
h
p
o
s
t
 
:
 
(
(
0
,
 
(
t
_
2
5
.
2
.
2
.
1
,
 
t
_
2
5
.
2
.
2
.
2
.
1
,
 
t
_
2
5
.
2
.
2
.
2
.
2
.
1
,
 
t
_
2
5
.
2
.
2
.
2
.
2
.
2
,
 
(
v
p
_
u
p
d
L
 
g
g
 
(
0
 
:
 
I
n
t
3
2
)
.
t
o
N
a
t
C
l
a
m
p
N
e
g
 
(
t
_
2
5
.
2
.
1
.
t
o
I
n
t
6
4
)
)
)
)
 
:
 
I
n
t
3
2
 
×
 
(
(
N
a
t
 
→
 
I
n
t
3
2
)
 
×
 
(
N
a
t
 
→
 
I
n
t
3
2
)
 
×
 
g
R
o
w
 
×
 
g
R
o
w
 
×
 
(
N
a
t
 
→
 
I
n
t
6
4
)
)
)
 
=
 
F
_
L
_
k
e
y
_
e
 
f
i
l
t
 
X
s
e
c
r
e
t
 
b
k
s
m
 
s
t
s
m
 
X
t
e
x
t
 
X
a
n
s
 
g
g
 
n
u
m
b
e
r
 
g
e
n
e
r
a
t
i
o
n
 
:
=
 
(
s
h
o
w
 
F
_
L
_
k
e
y
_
e
 
f
i
l
t
 
X
s
e
c
r
e
t
 
b
k
s
m
 
s
t
s
m
 
X
t
e
x
t
 
X
a
n
s
 
g
g
 
n
u
m
b
e
r
 
g
e
n
e
r
a
t
i
o
n
 
=
 
(
(
0
,
 
(
t
_
2
5
.
2
.
2
.
1
,
 
t
_
2
5
.
2
.
2
.
2
.
1
,
 
t
_
2
5
.
2
.
2
.
2
.
2
.
1
,
 
t
_
2
5
.
2
.
2
.
2
.
2
.
2
,
 
(
v
p
_
u
p
d
L
 
g
g
 
(
0
 
:
 
I
n
t
3
2
)
.
t
o
N
a
t
C
l
a
m
p
N
e
g
 
(
t
_
2
5
.
2
.
1
.
t
o
I
n
t
6
4
)
)
)
)
 
:
 
I
n
t
3
2
 
×
 
(
(
N
a
t
 
→
 
I
n
t
3
2
)
 
×
 
(
N
a
t
 
→
 
I
n
t
3
2
)
 
×
 
g
R
o
w
 
×
 
g
R
o
w
 
×
 
(
N
a
t
 
→
 
I
n
t
6
4
)
)
)
 
f
r
o
m
 
(
g
L
e
t
_
e
q
 
h
t
_
2
5
 
(
(
i
f
_
p
o
s
 
c
_
3
1
)
.
t
r
a
n
s
 
r
f
l
)
)
)
.
s
y
m
m


 
 
 
 
h
a
v
e
 
h
P
9
 
:
=
 
h
P
_
3
3
.
s
u
b
 
(
w
s
'
 
:
=
 
[
(
h
,
 
.
i
n
r
 
(
1
1
,
 
[
.
r
e
f
 
h
l
k
,
 
.
r
e
f
 
h
v
,
 
.
r
e
f
 
h
t
,
 
.
r
e
f
 
h
c
o
l
,
 
.
r
e
f
 
h
a
n
s
,
 
.
i
n
t
 
c
f
o
r
,
 
.
i
n
t
 
c
b
a
c
k
,
 
.
i
n
t
 
f
i
l
t
]
)
)
,
 
(
h
l
k
,
 
.
i
n
r
 
(
3
,
 
[
.
r
e
f
 
h
v
,
 
.
r
e
f
 
h
t
,
 
.
r
e
f
 
h
p
a
d
,
 
.
r
e
f
 
h
c
h
k
]
)
)
,
 
(
h
v
,
 
.
i
n
r
 
(
1
0
,
 
[
.
i
n
t
 
(
n
I
 
r
v
)
,
 
.
r
e
f
 
h
u
s
e
r
,
 
.
r
e
f
 
h
o
w
n
e
r
,
 
.
r
e
f
 
h
t
r
i
e
d
,
 
.
r
e
f
 
h
i
d
e
n
t
,
 
.
r
e
f
 
h
t
a
p
e
,
 
.
i
n
t
 
g
i
v
e
n
,
 
.
r
e
f
 
h
s
e
c
r
e
t
,
 
.
r
e
f
 
q
e
n
t
,
 
.
r
e
f
 
h
n
o
e
,
 
.
i
n
t
 
p
e
r
m
,
 
.
i
n
t
 
p
l
a
i
n
]
)
)
,
 
(
h
s
e
c
r
e
t
,
 
.
i
n
r
 
(
6
,
 
[
.
r
e
f
 
a
s
e
c
r
e
t
,
 
.
i
n
t
 
X
s
e
c
r
e
t
.
1
]
)
)
,
 
(
a
s
e
c
r
e
t
,
 
.
i
n
l
 
(
E
.
2
.
1
,
 
3
2
,
 
.
i
n
l
 
X
s
e
c
r
e
t
.
2
)
)
,
 
(
h
t
,
 
.
i
n
r
 
(
9
,
 
[
.
r
e
f
 
h
s
m
,
 
.
r
e
f
 
h
g
r
,
 
.
r
e
f
 
h
s
r
,
 
.
r
e
f
 
h
b
l
,
 
.
r
e
f
 
h
t
e
x
t
,
 
.
r
e
f
 
h
s
u
m
]
)
)
,
 
(
h
s
m
,
 
.
i
n
r
 
(
7
,
 
[
.
r
e
f
 
q
b
s
m
,
 
.
r
e
f
 
q
s
s
m
]
)
)
,
 
(
q
b
s
m
,
 
.
i
n
l
 
(
E
.
2
.
1
,
 
1
6
,
 
.
i
n
l
 
t
_
2
5
.
2
.
2
.
1
)
)
,
 
(
q
s
s
m
,
 
.
i
n
l
 
(
E
.
2
.
1
,
 
4
,
 
.
i
n
l
 
t
_
2
5
.
2
.
2
.
2
.
1
)
)
,
 
(
h
t
e
x
t
,
 
.
i
n
r
 
(
6
,
 
[
.
r
e
f
 
a
t
e
x
t
,
 
.
i
n
t
 
t
_
2
5
.
2
.
2
.
2
.
2
.
1
.
1
]
)
)
,
 
(
a
t
e
x
t
,
 
.
i
n
l
 
(
E
.
2
.
1
,
 
4
3
2
,
 
.
i
n
l
 
t
_
2
5
.
2
.
2
.
2
.
2
.
1
.
2
)
)
,
 
(
h
a
n
s
,
 
.
i
n
r
 
(
6
,
 
[
.
r
e
f
 
a
a
n
s
,
 
.
i
n
t
 
t
_
2
5
.
2
.
2
.
2
.
2
.
2
.
1
]
)
)
,
 
(
a
a
n
s
,
 
.
i
n
l
 
(
E
.
2
.
1
,
 
4
3
2
,
 
.
i
n
l
 
t
_
2
5
.
2
.
2
.
2
.
2
.
2
.
2
)
)
,
 
(
a
o
u
t
,
 
.
i
n
l
 
(
c
L
,
 
1
,
 
.
i
n
r
 
(
.
i
n
l
 
(
v
p
_
u
p
d
L
 
g
g
 
(
0
 
:
 
I
n
t
3
2
)
.
t
o
N
a
t
C
l
a
m
p
N
e
g
 
(
t
_
2
5
.
2
.
1
.
t
o
I
n
t
6
4
)
)
)
)
)
]
)
 
[
1
,
 
2
,
 
3
,
 
4
,
 
5
,
 
6
,
 
7
,
 
8
,
 
9
,
 
1
0
,
 
1
1
,
 
1
2
,
 
1
3
,
 
0
]
 
r
f
l


 
 
 
 
h
a
v
e
 
h
D
9
 
:
=
 
h
D
_
3
3
.
s
u
b
 
(
w
s
'
 
:
=
 
[
(
h
,
 
.
i
n
r
 
(
1
1
,
 
[
.
r
e
f
 
h
l
k
,
 
.
r
e
f
 
h
v
,
 
.
r
e
f
 
h
t
,
 
.
r
e
f
 
h
c
o
l
,
 
.
r
e
f
 
h
a
n
s
,
 
.
i
n
t
 
c
f
o
r
,
 
.
i
n
t
 
c
b
a
c
k
,
 
.
i
n
t
 
f
i
l
t
]
)
)
,
 
(
h
l
k
,
 
.
i
n
r
 
(
3
,
 
[
.
r
e
f
 
h
v
,
 
.
r
e
f
 
h
t
,
 
.
r
e
f
 
h
p
a
d
,
 
.
r
e
f
 
h
c
h
k
]
)
)
,
 
(
h
v
,
 
.
i
n
r
 
(
1
0
,
 
[
.
i
n
t
 
(
n
I
 
r
v
)
,
 
.
r
e
f
 
h
u
s
e
r
,
 
.
r
e
f
 
h
o
w
n
e
r
,
 
.
r
e
f
 
h
t
r
i
e
d
,
 
.
r
e
f
 
h
i
d
e
n
t
,
 
.
r
e
f
 
h
t
a
p
e
,
 
.
i
n
t
 
g
i
v
e
n
,
 
.
r
e
f
 
h
s
e
c
r
e
t
,
 
.
r
e
f
 
q
e
n
t
,
 
.
r
e
f
 
h
n
o
e
,
 
.
i
n
t
 
p
e
r
m
,
 
.
i
n
t
 
p
l
a
i
n
]
)
)
,
 
(
h
s
e
c
r
e
t
,
 
.
i
n
r
 
(
6
,
 
[
.
r
e
f
 
a
s
e
c
r
e
t
,
 
.
i
n
t
 
X
s
e
c
r
e
t
.
1
]
)
)
,
 
(
a
s
e
c
r
e
t
,
 
.
i
n
l
 
(
E
.
2
.
1
,
 
3
2
,
 
.
i
n
l
 
X
s
e
c
r
e
t
.
2
)
)
,
 
(
h
t
,
 
.
i
n
r
 
(
9
,
 
[
.
r
e
f
 
h
s
m
,
 
.
r
e
f
 
h
g
r
,
 
.
r
e
f
 
h
s
r
,
 
.
r
e
f
 
h
b
l
,
 
.
r
e
f
 
h
t
e
x
t
,
 
.
r
e
f
 
h
s
u
m
]
)
)
,
 
(
h
s
m
,
 
.
i
n
r
 
(
7
,
 
[
.
r
e
f
 
q
b
s
m
,
 
.
r
e
f
 
q
s
s
m
]
)
)
,
 
(
q
b
s
m
,
 
.
i
n
l
 
(
E
.
2
.
1
,
 
1
6
,
 
.
i
n
l
 
t
_
2
5
.
2
.
2
.
1
)
)
,
 
(
q
s
s
m
,
 
.
i
n
l
 
(
E
.
2
.
1
,
 
4
,
 
.
i
n
l
 
t
_
2
5
.
2
.
2
.
2
.
1
)
)
,
 
(
h
t
e
x
t
,
 
.
i
n
r
 
(
6
,
 
[
.
r
e
f
 
a
t
e
x
t
,
 
.
i
n
t
 
t
_
2
5
.
2
.
2
.
2
.
2
.
1
.
1
]
)
)
,
 
(
a
t
e
x
t
,
 
.
i
n
l
 
(
E
.
2
.
1
,
 
4
3
2
,
 
.
i
n
l
 
t
_
2
5
.
2
.
2
.
2
.
2
.
1
.
2
)
)
,
 
(
h
a
n
s
,
 
.
i
n
r
 
(
6
,
 
[
.
r
e
f
 
a
a
n
s
,
 
.
i
n
t
 
t
_
2
5
.
2
.
2
.
2
.
2
.
2
.
1
]
)
)
,
 
(
a
a
n
s
,
 
.
i
n
l
 
(
E
.
2
.
1
,
 
4
3
2
,
 
.
i
n
l
 
t
_
2
5
.
2
.
2
.
2
.
2
.
2
.
2
)
)
,
 
(
a
o
u
t
,
 
.
i
n
l
 
(
c
L
,
 
1
,
 
.
i
n
r
 
(
.
i
n
l
 
(
v
p
_
u
p
d
L
 
g
g
 
(
0
 
:
 
I
n
t
3
2
)
.
t
o
N
a
t
C
l
a
m
p
N
e
g
 
(
t
_
2
5
.
2
.
1
.
t
o
I
n
t
6
4
)
)
)
)
)
]
)
 
[
1
,
 
2
,
 
3
,
 
4
,
 
5
,
 
6
,
 
7
,
 
8
,
 
9
,
 
1
0
,
 
1
1
,
 
1
2
,
 
1
3
,
 
0
]
 
(
b
y
 
d
e
c
i
d
e
)
 
r
f
l


 
 
 
 
e
x
a
c
t
 
W
.
i
r
e
t
 
(
v
 
:
=
 
0
)
 
h
x
 
h
b
 
h
r
 
(
f
u
n
 
t
 
h
t
 
h
W
 
=
>
 
⟨
⟨
0
,
 
(
t
_
2
5
.
2
.
2
.
1
,
 
t
_
2
5
.
2
.
2
.
2
.
1
,
 
t
_
2
5
.
2
.
2
.
2
.
2
.
1
,
 
t
_
2
5
.
2
.
2
.
2
.
2
.
2
,
 
(
v
p
_
u
p
d
L
 
g
g
 
(
0
 
:
 
I
n
t
3
2
)
.
t
o
N
a
t
C
l
a
m
p
N
e
g
 
(
t
_
2
5
.
2
.
1
.
t
o
I
n
t
6
4
)
)
)
,
 
r
f
l
,
 
⟨
c
o
n
g
r
A
r
g
 
P
r
o
d
.
f
s
t
 
h
p
o
s
t
,
 
c
o
n
g
r
A
r
g
 
P
r
o
d
.
s
n
d
 
h
p
o
s
t
⟩
,
 
b
y
 
r
w
 
[
h
t
]
;
 
e
x
a
c
t
 
h
P
9
,
 
h
D
9
⟩
,
 
h
S
_
3
3
.
F
 
h
t
⟩
)
 
h
S
_
3
3
.
2
.
2
 
d
L
_
k
e
y
_
1
8


s
e
t
_
o
p
t
i
o
n
 
m
a
x
H
e
a
r
t
b
e
a
t
s
 
4
0
0
0
0
0
0
 
i
n


s
e
t
_
o
p
t
i
o
n
 
m
a
x
R
e
c
D
e
p
t
h
 
1
0
0
0
0
0
 
i
n


t
h
e
o
r
e
m
 
k
_
L
_
f
i
l
t
e
r
_
e
 
(
E
 
:
 
g
E
)
 
(
s
a
 
:
 
N
a
t
 
→
 
N
a
t
)
 
(
c
L
 
:
 
C
l
a
s
s
I
d
)
 
(
l
 
:
 
L
a
u
n
c
h
)
 
(
h
s
t
 
:
 
l
.
s
t
a
c
k
T
r
a
c
e
s
 
=
 
f
a
l
s
e
)
 
(
h
 
a
o
u
t
 
h
l
k
 
h
v
 
h
t
 
h
c
o
l
 
h
a
n
s
 
h
p
a
d
 
h
c
h
k
 
h
u
s
e
r
 
h
o
w
n
e
r
 
h
t
r
i
e
d
 
h
i
d
e
n
t
 
h
t
a
p
e
 
h
s
e
c
r
e
t
 
q
e
n
t
 
h
n
o
e
 
:
 
N
a
t
)
 
(
r
v
 
:
 
N
a
t
)
 
(
c
f
o
r
 
:
 
I
n
t
3
2
)
 
(
c
b
a
c
k
 
:
 
I
n
t
3
2
)
 
(
f
i
l
t
 
:
 
I
n
t
3
2
)
 
(
g
i
v
e
n
 
:
 
I
n
t
3
2
)
 
(
p
e
r
m
 
:
 
I
n
t
3
2
)
 
(
p
l
a
i
n
 
:
 
I
n
t
3
2
)
 
(
g
g
 
:
 
N
a
t
 
→
 
I
n
t
6
4
)
 
(
k
i
n
d
 
:
 
I
n
t
3
2
)
 
(
h
2
r
v
 
:
 
2
 
≤
 
r
v
 
∧
 
r
v
 
≤
 
4
)
 
:
 
g
H
i
 
E
 
s
a
 
c
L
 
l
 
y
L
_
f
i
l
t
e
r
 
w
s
L
_
f
i
l
t
e
r
 
(
{
 
f
r
a
m
e
s
 
:
=
 
7
,
 
c
e
l
l
s
 
:
=
 
1
,
 
s
l
o
t
s
 
:
=
 
6
,
 
l
o
c
a
l
s
 
:
=
 
1
0
4
 
}
)
 
1
 
6
 
[
.
r
e
f
 
h
,
 
.
i
n
t
 
k
i
n
d
,
 
.
r
e
f
 
a
o
u
t
]
 
[
(
h
,
 
.
i
n
r
 
(
1
1
,
 
[
.
r
e
f
 
h
l
k
,
 
.
r
e
f
 
h
v
,
 
.
r
e
f
 
h
t
,
 
.
r
e
f
 
h
c
o
l
,
 
.
r
e
f
 
h
a
n
s
,
 
.
i
n
t
 
c
f
o
r
,
 
.
i
n
t
 
c
b
a
c
k
,
 
.
i
n
t
 
f
i
l
t
]
)
)
,
 
(
h
l
k
,
 
.
i
n
r
 
(
3
,
 
[
.
r
e
f
 
h
v
,
 
.
r
e
f
 
h
t
,
 
.
r
e
f
 
h
p
a
d
,
 
.
r
e
f
 
h
c
h
k
]
)
)
,
 
(
h
v
,
 
.
i
n
r
 
(
1
0
,
 
[
.
i
n
t
 
(
n
I
 
r
v
)
,
 
.
r
e
f
 
h
u
s
e
r
,
 
.
r
e
f
 
h
o
w
n
e
r
,
 
.
r
e
f
 
h
t
r
i
e
d
,
 
.
r
e
f
 
h
i
d
e
n
t
,
 
.
r
e
f
 
h
t
a
p
e
,
 
.
i
n
t
 
g
i
v
e
n
,
 
.
r
e
f
 
h
s
e
c
r
e
t
,
 
.
r
e
f
 
q
e
n
t
,
 
.
r
e
f
 
h
n
o
e
,
 
.
i
n
t
 
p
e
r
m
,
 
.
i
n
t
 
p
l
a
i
n
]
)
)
,
 
(
a
o
u
t
,
 
.
i
n
l
 
(
c
L
,
 
1
,
 
.
i
n
r
 
(
.
i
n
l
 
g
g
)
)
)
]
 
(
f
u
n
 
(
r
r
 
:
 
I
n
t
3
2
)
 
(
u
u
 
:
 
I
n
t
3
2
 
×
 
(
N
a
t
 
→
 
I
n
t
6
4
)
)
 
=
>
 
r
r
 
=
 
(
F
_
L
_
f
i
l
t
e
r
_
e
 
r
v
 
f
i
l
t
 
g
g
 
k
i
n
d
)
.
1
 
∧
 
u
u
 
=
 
(
F
_
L
_
f
i
l
t
e
r
_
e
 
r
v
 
f
i
l
t
 
g
g
 
k
i
n
d
)
.
2
)
 
(
f
u
n
 
(
u
u
 
:
 
I
n
t
3
2
 
×
 
(
N
a
t
 
→
 
I
n
t
6
4
)
)
 
=
>
 
[
(
h
,
 
.
i
n
r
 
(
1
1
,
 
[
.
r
e
f
 
h
l
k
,
 
.
r
e
f
 
h
v
,
 
.
r
e
f
 
h
t
,
 
.
r
e
f
 
h
c
o
l
,
 
.
r
e
f
 
h
a
n
s
,
 
.
i
n
t
 
c
f
o
r
,
 
.
i
n
t
 
c
b
a
c
k
,
 
.
i
n
t
 
u
u
.
1
]
)
)
,
 
(
h
l
k
,
 
.
i
n
r
 
(
3
,
 
[
.
r
e
f
 
h
v
,
 
.
r
e
f
 
h
t
,
 
.
r
e
f
 
h
p
a
d
,
 
.
r
e
f
 
h
c
h
k
]
)
)
,
 
(
h
v
,
 
.
i
n
r
 
(
1
0
,
 
[
.
i
n
t
 
(
n
I
 
r
v
)
,
 
.
r
e
f
 
h
u
s
e
r
,
 
.
r
e
f
 
h
o
w
n
e
r
,
 
.
r
e
f
 
h
t
r
i
e
d
,
 
.
r
e
f
 
h
i
d
e
n
t
,
 
.
r
e
f
 
h
t
a
p
e
,
 
.
i
n
t
 
g
i
v
e
n
,
 
.
r
e
f
 
h
s
e
c
r
e
t
,
 
.
r
e
f
 
q
e
n
t
,
 
.
r
e
f
 
h
n
o
e
,
 
.
i
n
t
 
p
e
r
m
,
 
.
i
n
t
 
p
l
a
i
n
]
)
)
,
 
(
a
o
u
t
,
 
.
i
n
l
 
(
c
L
,
 
1
,
 
.
i
n
r
 
(
.
i
n
l
 
u
u
.
2
)
)
)
]
)
 
:
=
 
b
y


 
 
i
n
t
r
o
 
s
z


 
 
r
e
f
i
n
e
 
v
x
_
o
f
W
H
 
(
h
h
 
:
=
 
[
(
0
,
 
9
,
 
1
2
,
 
4
1
)
]
)
 
(
c
c
 
:
=
 
c
L
_
f
i
l
t
e
r
)
 
(
m
a
x
L
 
:
=
 
4
)
 
(
r
e
t
 
:
=
 
(
s
o
m
e
 
.
i
n
t
)
)
 
(
b
y
 
d
e
c
i
d
e
)
 
r
f
l
 
?
_


 
 
i
n
t
r
o
 
p
 
e
 
s
 
m
 
a
r
g
s
 
b
e
l
o
w
 
m
e
t
h
 
c
 
s
₁
 
B
 
h
m
l
 
h
v


 
 
o
b
t
a
i
n
 
⟨
r
f
l
,
 
h
s
z
,
 
h
P
,
 
⟨
h
V
,
 
h
X
,
 
h
L
⟩
,
 
h
D
0
⟩
 
:
=
 
h
v


 
 
h
a
v
e
 
h
x
 
:
=
 
B
.
e
x
e
c


 
 
h
a
v
e
 
h
b
 
:
=
 
B
.
b
y
t
e
s


 
 
h
a
v
e
 
h
r
 
:
=
 
B
.
r
e
t
u
r
n
s


 
 
h
a
v
e
 
h
t
s
 
:
=
 
a
t
o
m
s
_
s
p
e
c
 
(
w
s
 
:
=
 
w
s
L
_
f
i
l
t
e
r
)
 
B
.
p
r
e


 
 
h
a
v
e
 
h
o
w
n
 
:
 
s
.
v
m
.
f
i
n
d
C
l
a
s
s
 
R
L
 
=
 
s
o
m
e
 
m
.
c
l
s
 
:
=
 
f
i
n
d
C
l
a
s
s
_
o
f
_
m
e
t
h
o
d
N
a
m
e
d
 
B
.
n
a
m
e
d


 
 
h
a
v
e
 
h
l
o
c
k
s
 
:
=
 
B
.
n
o
t
S
y
n
c
h
r
o
n
i
z
e
d


 
 
h
a
v
e
 
h
t
a
b
 
:
=
 
v
x
_
t
a
b
l
e
 
B
 
(
h
t
s
 
(
.
c
o
d
e
W
i
t
h
 
y
L
_
f
i
l
t
e
r
 
c
L
_
f
i
l
t
e
r
 
4
 
(
s
o
m
e
 
.
i
n
t
)
 
[
(
0
,
 
9
,
 
1
2
,
 
4
1
)
]
)
 
(
b
y
 
d
e
c
i
d
e
 
+
k
e
r
n
e
l
)
)


 
 
s
u
b
s
t
 
h
s
z


 
 
h
a
v
e
 
h
D
 
:
=
 
h
D
0
.
s
e
l
f
 
(
s
z
 
:
=
 
s
.
h
e
a
p
.
s
i
z
e
)


 
 
c
l
e
a
r
 
h
D
0


 
 
g
e
n
e
r
a
l
i
z
e
 
h
A
e
 
:
 
v
a
_
A
 
[
(
h
,
 
.
i
n
r
 
(
1
1
,
 
[
.
r
e
f
 
h
l
k
,
 
.
r
e
f
 
h
v
,
 
.
r
e
f
 
h
t
,
 
.
r
e
f
 
h
c
o
l
,
 
.
r
e
f
 
h
a
n
s
,
 
.
i
n
t
 
c
f
o
r
,
 
.
i
n
t
 
c
b
a
c
k
,
 
.
i
n
t
 
f
i
l
t
]
)
)
,
 
(
h
l
k
,
 
.
i
n
r
 
(
3
,
 
[
.
r
e
f
 
h
v
,
 
.
r
e
f
 
h
t
,
 
.
r
e
f
 
h
p
a
d
,
 
.
r
e
f
 
h
c
h
k
]
)
)
,
 
(
h
v
,
 
.
i
n
r
 
(
1
0
,
 
[
.
i
n
t
 
(
n
I
 
r
v
)
,
 
.
r
e
f
 
h
u
s
e
r
,
 
.
r
e
f
 
h
o
w
n
e
r
,
 
.
r
e
f
 
h
t
r
i
e
d
,
 
.
r
e
f
 
h
i
d
e
n
t
,
 
.
r
e
f
 
h
t
a
p
e
,
 
.
i
n
t
 
g
i
v
e
n
,
 
.
r
e
f
 
h
s
e
c
r
e
t
,
 
.
r
e
f
 
q
e
n
t
,
 
.
r
e
f
 
h
n
o
e
,
 
.
i
n
t
 
p
e
r
m
,
 
.
i
n
t
 
p
l
a
i
n
]
)
)
,
 
(
a
o
u
t
,
 
.
i
n
l
 
(
c
L
,
 
1
,
 
.
i
n
r
 
(
.
i
n
l
 
g
g
)
)
)
]
 
s
.
h
e
a
p
.
s
i
z
e
 
=
 
A
 
a
t
 
h
D
 
h
V
 
h
X
 
⊢


 
 
h
a
v
e
 
h
A
 
:
 
∀
 
q
 
:
 
N
a
t
,
 
s
.
h
e
a
p
.
s
i
z
e
 
≤
 
q
 
→
 
A
 
q
 
:
=
 
f
u
n
 
q
 
h
 
=
>
 
b
y
 
r
w
 
[
←
 
h
A
e
]
;
 
e
x
a
c
t
 
O
r
.
i
n
r
 
h


 
 
h
a
v
e
 
h
S
 
:
 
v
a
_
S
 
A
 
s
.
h
e
a
p
 
s
.
h
e
a
p
 
[
]
 
:
=
 
v
a
_
S
.
r
f


 
 
h
a
v
e
 
h
K
 
:
=
 
h
V
.
1


 
 
h
a
v
e
 
h
F
 
:
 
C
a
l
l
F
i
x
 
p
 
m
 
c
 
c
L
_
f
i
l
t
e
r
 
4
 
s
 
_
 
w
s
L
_
f
i
l
t
e
r
 
R
L
 
:
=
 
⟨
h
x
,
 
h
b
,
 
h
m
l
,
 
h
o
w
n
,
 
h
t
s
⟩


 
 
h
a
v
e
 
h
l
 
:
=
 
l
v
_
e
n
t
r
y
 
[
.
r
e
f
 
h
,
 
.
i
n
t
 
k
i
n
d
,
 
.
r
e
f
 
a
o
u
t
]
 
(
n
 
:
=
 
4
)
 
(
N
a
t
.
l
e
_
o
f
_
b
l
e
_
e
q
_
t
r
u
e
 
r
f
l
)


 
 
r
w
 
[
l
g
_
e
n
t
r
y
_
e
q
]


 
 
g
e
n
e
r
a
l
i
z
e
 
(
l
g
_
s
l
 
[
.
r
e
f
 
h
,
 
.
i
n
t
 
k
i
n
d
,
 
.
r
e
f
 
a
o
u
t
]
 
+
+
 
L
i
s
t
.
r
e
p
l
i
c
a
t
e
 
(
4
 
-
 
(
l
g
_
s
l
 
[
.
r
e
f
 
h
,
 
.
i
n
t
 
k
i
n
d
,
 
.
r
e
f
 
a
o
u
t
]
)
.
l
e
n
g
t
h
)
 
S
l
o
t
.
u
n
s
e
t
)
.
t
o
A
r
r
a
y
 
=
 
l
s
 
a
t
 
h
l
 
⊢


 
 
h
a
v
e
 
h
l
 
:
 
l
v
_
h
a
s
 
l
s
 
4
 
[
(
0
,
 
.
r
e
f
 
h
)
,
 
(
1
,
 
.
i
n
t
 
k
i
n
d
)
,
 
(
2
,
 
.
r
e
f
 
a
o
u
t
)
]
 
:
=
 
h
l


 
 
h
a
v
e
 
w
_
0
 
:
=
 
h
t
s
 
(
.
c
l
a
s
s
L
i
n
k
 
R
L
 
4
1
 
"
j
a
v
a
/
l
a
n
g
/
I
l
l
e
g
a
l
A
r
g
u
m
e
n
t
E
x
c
e
p
t
i
o
n
"
)
 
(
b
y
 
d
e
c
i
d
e
 
+
k
e
r
n
e
l
)


 
 
r
e
f
i
n
e
 
l
v
_
a
l
o
a
d
_
n
 
h
x
 
h
b
 
d
L
_
f
i
l
t
e
r
_
0
 
r
f
l
 
(
l
v
_
a
t
 
h
l
 
2
 
r
f
l
)
 
?
_


 
 
r
e
f
i
n
e
 
l
v
_
i
c
o
n
s
t
 
(
v
 
:
=
 
0
)
 
h
x
 
h
b
 
d
L
_
f
i
l
t
e
r
_
1
 
(
b
y
 
d
e
c
i
d
e
)
 
?
_


 
 
r
e
f
i
n
e
 
l
v
_
a
l
o
a
d
_
n
 
h
x
 
h
b
 
d
L
_
f
i
l
t
e
r
_
2
 
r
f
l
 
(
l
v
_
a
t
 
h
l
 
0
 
r
f
l
)
 
?
_


 
 
r
e
f
i
n
e
 
l
v
_
i
l
o
a
d
_
n
 
h
x
 
h
b
 
d
L
_
f
i
l
t
e
r
_
3
 
r
f
l
 
(
l
v
_
a
t
 
h
l
 
1
 
r
f
l
)
 
?
_


 
 
o
b
t
a
i
n
 
⟨
t
_
2
5
,
 
h
t
_
2
5
⟩
 
:
 
∃
 
t
9
 
:
 
N
a
t
 
×
 
(
I
n
t
3
2
 
×
 
(
I
n
t
3
2
)
)
,
 
t
9
 
=
 
F
_
X
1
0
_
f
i
l
t
e
r
_
e
 
r
v
 
f
i
l
t
 
k
i
n
d
 
:
=
 
⟨
_
,
 
r
f
l
⟩


 
 
r
e
f
i
n
e
 
g
T
V
i
 
h
F
 
h
l
 
h
V
 
h
X
 
h
P
 
h
D
 
h
S
 
h
A
 
[
0
,
 
1
,
 
2
]
 
[
3
]
 
(
w
c
 
:
=
 
[
(
h
,
 
.
i
n
r
 
(
1
1
,
 
[
.
r
e
f
 
h
l
k
,
 
.
r
e
f
 
h
v
,
 
.
r
e
f
 
h
t
,
 
.
r
e
f
 
h
c
o
l
,
 
.
r
e
f
 
h
a
n
s
,
 
.
i
n
t
 
c
f
o
r
,
 
.
i
n
t
 
c
b
a
c
k
,
 
.
i
n
t
 
f
i
l
t
]
)
)
,
 
(
h
l
k
,
 
.
i
n
r
 
(
3
,
 
[
.
r
e
f
 
h
v
,
 
.
r
e
f
 
h
t
,
 
.
r
e
f
 
h
p
a
d
,
 
.
r
e
f
 
h
c
h
k
]
)
)
,
 
(
h
v
,
 
.
i
n
r
 
(
1
0
,
 
[
.
i
n
t
 
(
n
I
 
r
v
)
,
 
.
r
e
f
 
h
u
s
e
r
,
 
.
r
e
f
 
h
o
w
n
e
r
,
 
.
r
e
f
 
h
t
r
i
e
d
,
 
.
r
e
f
 
h
i
d
e
n
t
,
 
.
r
e
f
 
h
t
a
p
e
,
 
.
i
n
t
 
g
i
v
e
n
,
 
.
r
e
f
 
h
s
e
c
r
e
t
,
 
.
r
e
f
 
q
e
n
t
,
 
.
r
e
f
 
h
n
o
e
,
 
.
i
n
t
 
p
e
r
m
,
 
.
i
n
t
 
p
l
a
i
n
]
)
)
]
)
 
(
w
r
 
:
=
 
[
(
a
o
u
t
,
 
.
i
n
l
 
(
c
L
,
 
1
,
 
.
i
n
r
 
(
.
i
n
l
 
g
g
)
)
)
]
)
 
r
f
l
 
r
f
l
 
r
f
l
 
(
b
y
 
d
e
c
i
d
e
)
 
0
 
1
1
 
r
f
l
 
r
f
l
 
r
f
l
 
(
k
_
X
1
0
_
f
i
l
t
e
r
_
e
 
E
 
s
a
 
l
 
h
s
t
 
h
 
h
l
k
 
h
v
 
h
t
 
h
c
o
l
 
h
a
n
s
 
h
p
a
d
 
h
c
h
k
 
h
u
s
e
r
 
h
o
w
n
e
r
 
h
t
r
i
e
d
 
h
i
d
e
n
t
 
h
t
a
p
e
 
h
s
e
c
r
e
t
 
q
e
n
t
 
h
n
o
e
 
r
v
 
c
f
o
r
 
c
b
a
c
k
 
f
i
l
t
 
g
i
v
e
n
 
p
e
r
m
 
p
l
a
i
n
 
k
i
n
d
 
h
2
r
v
)
 
(
c
w
V
 
1
 
h
t
s
 
g
L
_
f
i
l
t
e
r
_
X
1
0
_
f
i
l
t
e
r
 
r
f
l
 
r
f
l
 
r
f
l
 
(
b
y
 
d
e
c
i
d
e
 
+
k
e
r
n
e
l
)
 
⟨
N
a
t
.
l
e
_
o
f
_
b
l
e
_
e
q
_
t
r
u
e
 
r
f
l
,
 
N
a
t
.
l
e
_
o
f
_
b
l
e
_
e
q
_
t
r
u
e
 
r
f
l
⟩
)
 
r
f
l
 
r
f
l
 
r
f
l
 
(
N
a
t
.
l
e
_
o
f
_
b
l
e
_
e
q
_
t
r
u
e
 
r
f
l
)
 
d
L
_
f
i
l
t
e
r
_
4
 
⟨
N
a
t
.
l
e
_
o
f
_
b
l
e
_
e
q
_
t
r
u
e
 
r
f
l
,
 
N
a
t
.
l
e
_
o
f
_
b
l
e
_
e
q
_
t
r
u
e
 
r
f
l
⟩
 
(
f
u
n
 
n
m
_
2
6
 
c
e
_
2
6
 
q
_
2
6
 
H
_
2
7
 
l
o
c
s
_
2
7
 
p
x
_
2
6
 
h
P
_
2
7
 
h
D
_
2
7
 
h
S
_
2
7
 
h
c
e
_
2
6
 
h
c
v
_
2
6
 
h
c
l
_
2
6
 
=
>
 
?
_
)
 
(
f
u
n
 
r
_
2
3
 
u
_
2
3
 
H
_
2
4
 
l
o
c
s
_
2
4
 
h
u
_
2
3
 
h
P
_
2
4
 
h
D
_
2
4
 
h
S
_
2
4
 
=
>
 
?
_
)


 
 
·
 
r
e
p
l
a
c
e
 
h
P
_
2
7
 
:
 
v
a
_
P
 
E
.
1
 
v
w
C
l
 
[
(
a
o
u
t
,
 
.
i
n
l
 
(
c
L
,
 
1
,
 
.
i
n
r
 
(
.
i
n
l
 
g
g
)
)
)
,
 
(
h
,
 
.
i
n
r
 
(
1
1
,
 
[
.
r
e
f
 
h
l
k
,
 
.
r
e
f
 
h
v
,
 
.
r
e
f
 
h
t
,
 
.
r
e
f
 
h
c
o
l
,
 
.
r
e
f
 
h
a
n
s
,
 
.
i
n
t
 
c
f
o
r
,
 
.
i
n
t
 
c
b
a
c
k
,
 
.
i
n
t
 
f
i
l
t
]
)
)
,
 
(
h
l
k
,
 
.
i
n
r
 
(
3
,
 
[
.
r
e
f
 
h
v
,
 
.
r
e
f
 
h
t
,
 
.
r
e
f
 
h
p
a
d
,
 
.
r
e
f
 
h
c
h
k
]
)
)
,
 
(
h
v
,
 
.
i
n
r
 
(
1
0
,
 
[
.
i
n
t
 
(
n
I
 
r
v
)
,
 
.
r
e
f
 
h
u
s
e
r
,
 
.
r
e
f
 
h
o
w
n
e
r
,
 
.
r
e
f
 
h
t
r
i
e
d
,
 
.
r
e
f
 
h
i
d
e
n
t
,
 
.
r
e
f
 
h
t
a
p
e
,
 
.
i
n
t
 
g
i
v
e
n
,
 
.
r
e
f
 
h
s
e
c
r
e
t
,
 
.
r
e
f
 
q
e
n
t
,
 
.
r
e
f
 
h
n
o
e
,
 
.
i
n
t
 
p
e
r
m
,
 
.
i
n
t
 
p
l
a
i
n
]
)
)
]
 
H
_
2
7
 
:
=
 
h
P
_
2
7


 
 
 
 
r
e
p
l
a
c
e
 
h
D
_
2
7
 
:
 
v
a
_
D
 
A
 
[
(
a
o
u
t
,
 
.
i
n
l
 
(
c
L
,
 
1
,
 
.
i
n
r
 
(
.
i
n
l
 
g
g
)
)
)
,
 
(
h
,
 
.
i
n
r
 
(
1
1
,
 
[
.
r
e
f
 
h
l
k
,
 
.
r
e
f
 
h
v
,
 
.
r
e
f
 
h
t
,
 
.
r
e
f
 
h
c
o
l
,
 
.
r
e
f
 
h
a
n
s
,
 
.
i
n
t
 
c
f
o
r
,
 
.
i
n
t
 
c
b
a
c
k
,
 
.
i
n
t
 
f
i
l
t
]
)
)
,
 
(
h
l
k
,
 
.
i
n
r
 
(
3
,
 
[
.
r
e
f
 
h
v
,
 
.
r
e
f
 
h
t
,
 
.
r
e
f
 
h
p
a
d
,
 
.
r
e
f
 
h
c
h
k
]
)
)
,
 
(
h
v
,
 
.
i
n
r
 
(
1
0
,
 
[
.
i
n
t
 
(
n
I
 
r
v
)
,
 
.
r
e
f
 
h
u
s
e
r
,
 
.
r
e
f
 
h
o
w
n
e
r
,
 
.
r
e
f
 
h
t
r
i
e
d
,
 
.
r
e
f
 
h
i
d
e
n
t
,
 
.
r
e
f
 
h
t
a
p
e
,
 
.
i
n
t
 
g
i
v
e
n
,
 
.
r
e
f
 
h
s
e
c
r
e
t
,
 
.
r
e
f
 
q
e
n
t
,
 
.
r
e
f
 
h
n
o
e
,
 
.
i
n
t
 
p
e
r
m
,
 
.
i
n
t
 
p
l
a
i
n
]
)
)
]
 
:
=
 
h
D
_
2
7


 
 
 
 
c
l
e
a
r
 
h
P
 
h
D
 
h
S


 
 
 
 
h
a
v
e
 
c
_
2
8
 
:
 
¬
 
t
_
2
5
.
1
 
=
 
0
 
:
=
 
b
y
 
r
w
 
[
h
t
_
2
5
]
;
 
e
x
a
c
t
 
p
x
_
2
6
.
2


 
 
 
 
h
a
v
e
 
c
_
2
9
 
:
 
t
_
2
5
.
1
 
=
 
2
 
:
=
 
b
y
 
h
a
v
e
 
q
9
 
:
=
 
L
c
_
X
1
0
_
f
i
l
t
e
r
_
e
 
_
 
_
 
_
;
 
r
w
 
[
←
 
h
t
_
2
5
]
 
a
t
 
q
9
;
 
o
m
e
g
a


 
 
 
 
o
b
t
a
i
n
 
r
f
l
 
:
 
n
m
_
2
6
 
=
 
"
j
a
v
a
/
l
a
n
g
/
I
l
l
e
g
a
l
A
r
g
u
m
e
n
t
E
x
c
e
p
t
i
o
n
"
 
:
=
 
p
x
_
2
6
.
1
.
t
r
a
n
s
 
(
b
y
 
r
w
 
[
←
 
h
t
_
2
5
,
 
c
_
2
9
]
;
 
r
f
l
)


 
 
 
 
r
e
f
i
n
e
 
v
x
_
c
a
t
c
h
 
h
o
w
n
 
[
]
 
⟨
0
,
 
9
,
 
1
2
,
 
4
1
⟩
 
[
]
 
(
b
y
 
r
w
 
[
h
t
a
b
]
;
 
r
f
l
)
 
(
f
u
n
 
z
 
h
9
 
=
>
 
a
b
s
u
r
d
 
h
9
 
L
i
s
t
.
n
o
t
_
m
e
m
_
n
i
l
)
 
(
b
y
 
d
e
c
i
d
e
)
 
(
b
y
 
d
e
c
i
d
e
)
 
w
_
0
 
(
v
a
_
N
w
.
u
s
e
 
r
f
l
 
(
h
X
.
2
.
1
 
(
.
c
a
s
t
a
b
l
e
 
"
j
a
v
a
/
l
a
n
g
/
I
l
l
e
g
a
l
A
r
g
u
m
e
n
t
E
x
c
e
p
t
i
o
n
"
 
"
j
a
v
a
/
l
a
n
g
/
I
l
l
e
g
a
l
A
r
g
u
m
e
n
t
E
x
c
e
p
t
i
o
n
"
)
 
(
b
y
 
d
e
c
i
d
e
 
+
k
e
r
n
e
l
)
)
)
 
h
c
e
_
2
6
 
h
c
v
_
2
6
 
h
c
l
_
2
6
 
?
_


 
 
 
 
r
e
f
i
n
e
 
l
v
_
a
s
t
o
r
e
_
n
 
(
l
v
'
 
:
=
 
[
(
3
,
 
.
r
e
f
 
q
_
2
6
)
,
 
(
0
,
 
.
r
e
f
 
h
)
,
 
(
1
,
 
.
i
n
t
 
k
i
n
d
)
,
 
(
2
,
 
.
r
e
f
 
a
o
u
t
)
]
)
 
h
x
 
h
b
 
d
L
_
f
i
l
t
e
r
_
1
2
 
r
f
l
 
h
l
 
(
b
y
 
d
e
c
i
d
e
)
 
r
f
l
 
(
f
u
n
 
l
s
_
3
0
 
h
l
_
3
0
 
=
>
 
?
_
)


 
 
 
 
c
l
e
a
r
 
h
l


 
 
 
 
r
e
f
i
n
e
 
l
v
_
i
c
o
n
s
t
 
(
v
 
:
=
 
1
)
 
h
x
 
h
b
 
d
L
_
f
i
l
t
e
r
_
1
3
 
(
b
y
 
d
e
c
i
d
e
)
 
?
_


 
 
 
 
r
e
f
i
n
e
 
v
x
_
r
e
t
 
?
_


 
 
 
 
h
a
v
e
 
h
p
o
s
t
 
:
 
(
(
1
,
 
(
f
i
l
t
,
 
g
g
)
)
 
:
 
I
n
t
3
2
 
×
 
(
I
n
t
3
2
 
×
 
(
N
a
t
 
→
 
I
n
t
6
4
)
)
)
 
=
 
F
_
L
_
f
i
l
t
e
r
_
e
 
r
v
 
f
i
l
t
 
g
g
 
k
i
n
d
 
:
=
 
(
s
h
o
w
 
F
_
L
_
f
i
l
t
e
r
_
e
 
r
v
 
f
i
l
t
 
g
g
 
k
i
n
d
 
=
 
(
(
1
,
 
(
f
i
l
t
,
 
g
g
)
)
 
:
 
I
n
t
3
2
 
×
 
(
I
n
t
3
2
 
×
 
(
N
a
t
 
→
 
I
n
t
6
4
)
)
)
 
f
r
o
m
 
(
g
L
e
t
_
e
q
 
h
t
_
2
5
 
(
(
i
f
_
n
e
g
 
c
_
2
8
)
.
t
r
a
n
s
 
r
f
l
)
)
)
.
s
y
m
m


 
 
 
 
h
a
v
e
 
h
P
9
 
:
=
 
h
P
_
2
7
.
s
u
b
 
(
w
s
'
 
:
=
 
[
(
h
,
 
.
i
n
r
 
(
1
1
,
 
[
.
r
e
f
 
h
l
k
,
 
.
r
e
f
 
h
v
,
 
.
r
e
f
 
h
t
,
 
.
r
e
f
 
h
c
o
l
,
 
.
r
e
f
 
h
a
n
s
,
 
.
i
n
t
 
c
f
o
r
,
 
.
i
n
t
 
c
b
a
c
k
,
 
.
i
n
t
 
f
i
l
t
]
)
)
,
 
(
h
l
k
,
 
.
i
n
r
 
(
3
,
 
[
.
r
e
f
 
h
v
,
 
.
r
e
f
 
h
t
,
 
.
r
e
f
 
h
p
a
d
,
 
.
r
e
f
 
h
c
h
k
]
)
)
,
 
(
h
v
,
 
.
i
n
r
 
(
1
0
,
 
[
.
i
n
t
 
(
n
I
 
r
v
)
,
 
.
r
e
f
 
h
u
s
e
r
,
 
.
r
e
f
 
h
o
w
n
e
r
,
 
.
r
e
f
 
h
t
r
i
e
d
,
 
.
r
e
f
 
h
i
d
e
n
t
,
 
.
r
e
f
 
h
t
a
p
e
,
 
.
i
n
t
 
g
i
v
e
n
,
 
.
r
e
f
 
h
s
e
c
r
e
t
,
 
.
r
e
f
 
q
e
n
t
,
 
.
r
e
f
 
h
n
o
e
,
 
.
i
n
t
 
p
e
r
m
,
 
.
i
n
t
 
p
l
a
i
n
]
)
)
,
 
(
a
o
u
t
,
 
.
i
n
l
 
(
c
L
,
 
1
,
 
.
i
n
r
 
(
.
i
n
l
 
g
g
)
)
)
]
)
 
[
1
,
 
2
,
 
3
,
 
0
]
 
r
f
l


 
 
 
 
h
a
v
e
 
h
D
9
 
:
=
 
h
D
_
2
7
.
s
u
b
 
(
w
s
'
 
:
=
 
[
(
h
,
 
.
i
n
r
 
(
1
1
,
 
[
.
r
e
f
 
h
l
k
,
 
.
r
e
f
 
h
v
,
 
.
r
e
f
 
h
t
,
 
.
r
e
f
 
h
c
o
l
,
 
.
r
e
f
 
h
a
n
s
,
 
.
i
n
t
 
c
f
o
r
,
 
.
i
n
t
 
c
b
a
c
k
,
 
.
i
n
t
 
f
i
l
t
]
)
)
,
 
(
h
l
k
,
 
.
i
n
r
 
(
3
,
 
[
.
r
e
f
 
h
v
,
 
.
r
e
f
 
h
t
,
 
.
r
e
f
 
h
p
a
d
,
 
.
r
e
f
 
h
c
h
k
]
)
)
,
 
(
h
v
,
 
.
i
n
r
 
(
1
0
,
 
[
.
i
n
t
 
(
n
I
 
r
v
)
,
 
.
r
e
f
 
h
u
s
e
r
,
 
.
r
e
f
 
h
o
w
n
e
r
,
 
.
r
e
f
 
h
t
r
i
e
d
,
 
.
r
e
f
 
h
i
d
e
n
t
,
 
.
r
e
f
 
h
t
a
p
e
,
 
.
i
n
t
 
g
i
v
e
n
,
 
.
r
e
f
 
h
s
e
c
r
e
t
,
 
.
r
e
f
 
q
e
n
t
,
 
.
r
e
f
 
h
n
o
e
,
 
.
i
n
t
 
p
e
r
m
,
 
.
i
n
t
 
p
l
a
i
n
]
)
)
,
 
(
a
o
u
t
,
 
.
i
n
l
 
(
c
L
,
 
1
,
 
.
i
n
r
 
(
.
i
n
l
 
g
g
)
)
)
]
)
 
[
1
,
 
2
,
 
3
,
 
0
]
 
(
b
y
 
d
e
c
i
d
e
)
 
r
f
l


 
 
 
 
e
x
a
c
t
 
W
.
i
r
e
t
 
(
v
 
:
=
 
1
)
 
h
x
 
h
b
 
h
r
 
(
f
u
n
 
t
 
h
t
 
h
W
 
=
>
 
⟨
⟨
1
,
 
(
f
i
l
t
,
 
g
g
)
,
 
r
f
l
,
 
⟨
c
o
n
g
r
A
r
g
 
P
r
o
d
.
f
s
t
 
h
p
o
s
t
,
 
c
o
n
g
r
A
r
g
 
P
r
o
d
.
s
n
d
 
h
p
o
s
t
⟩
,
 
b
y
 
r
w
 
[
h
t
]
;
 
e
x
a
c
t
 
h
P
9
,
 
h
D
9
⟩
,
 
h
S
_
2
7
.
F
 
h
t
⟩
)
 
h
S
_
2
7
.
2
.
2
 
d
L
_
f
i
l
t
e
r
_
1
4


 
 
·
 
h
a
v
e
 
e
_
3
2
 
:
 
t
_
2
5
 
=
 
(
(
0
,
 
(
r
_
2
3
,
 
u
_
2
3
)
)
 
:
 
N
a
t
 
×
 
(
I
n
t
3
2
 
×
 
(
I
n
t
3
2
)
)
)
 
:
=
 
h
t
_
2
5
.
t
r
a
n
s
 
h
u
_
2
3
.
s
y
m
m


 
 
 
 
h
a
v
e
 
c
_
3
1
 
:
 
t
_
2
5
.
1
 
=
 
0
 
:
=
 
b
y
 
r
w
 
[
e
_
3
2
]


 
 
 
 
o
b
t
a
i
n
 
r
f
l
 
:
 
r
_
2
3
 
=
 
t
_
2
5
.
2
.
1
 
:
=
 
(
c
o
n
g
r
A
r
g
 
(
f
u
n
 
z
 
:
 
N
a
t
 
×
 
(
I
n
t
3
2
 
×
 
(
I
n
t
3
2
)
)
 
=
>
 
z
.
2
.
1
)
 
e
_
3
2
)
.
s
y
m
m


 
 
 
 
o
b
t
a
i
n
 
r
f
l
 
:
 
u
_
2
3
 
=
 
t
_
2
5
.
2
.
2
 
:
=
 
(
c
o
n
g
r
A
r
g
 
(
f
u
n
 
z
 
:
 
N
a
t
 
×
 
(
I
n
t
3
2
 
×
 
(
I
n
t
3
2
)
)
 
=
>
 
z
.
2
.
2
)
 
e
_
3
2
)
.
s
y
m
m


 
 
 
 
r
e
p
l
a
c
e
 
h
P
_
2
4
 
:
 
v
a
_
P
 
E
.
1
 
v
w
C
l
 
[
(
a
o
u
t
,
 
.
i
n
l
 
(
c
L
,
 
1
,
 
.
i
n
r
 
(
.
i
n
l
 
g
g
)
)
)
,
 
(
h
,
 
.
i
n
r
 
(
1
1
,
 
[
.
r
e
f
 
h
l
k
,
 
.
r
e
f
 
h
v
,
 
.
r
e
f
 
h
t
,
 
.
r
e
f
 
h
c
o
l
,
 
.
r
e
f
 
h
a
n
s
,
 
.
i
n
t
 
c
f
o
r
,
 
.
i
n
t
 
c
b
a
c
k
,
 
.
i
n
t
 
t
_
2
5
.
2
.
2
]
)
)
,
 
(
h
l
k
,
 
.
i
n
r
 
(
3
,
 
[
.
r
e
f
 
h
v
,
 
.
r
e
f
 
h
t
,
 
.
r
e
f
 
h
p
a
d
,
 
.
r
e
f
 
h
c
h
k
]
)
)
,
 
(
h
v
,
 
.
i
n
r
 
(
1
0
,
 
[
.
i
n
t
 
(
n
I
 
r
v
)
,
 
.
r
e
f
 
h
u
s
e
r
,
 
.
r
e
f
 
h
o
w
n
e
r
,
 
.
r
e
f
 
h
t
r
i
e
d
,
 
.
r
e
f
 
h
i
d
e
n
t
,
 
.
r
e
f
 
h
t
a
p
e
,
 
.
i
n
t
 
g
i
v
e
n
,
 
.
r
e
f
 
h
s
e
c
r
e
t
,
 
.
r
e
f
 
q
e
n
t
,
 
.
r
e
f
 
h
n
o
e
,
 
.
i
n
t
 
p
e
r
m
,
 
.
i
n
t
 
p
l
a
i
n
]
)
)
]
 
H
_
2
4
 
:
=
 
h
P
_
2
4


 
 
 
 
r
e
p
l
a
c
e
 
h
D
_
2
4
 
:
 
v
a
_
D
 
A
 
[
(
a
o
u
t
,
 
.
i
n
l
 
(
c
L
,
 
1
,
 
.
i
n
r
 
(
.
i
n
l
 
g
g
)
)
)
,
 
(
h
,
 
.
i
n
r
 
(
1
1
,
 
[
.
r
e
f
 
h
l
k
,
 
.
r
e
f
 
h
v
,
 
.
r
e
f
 
h
t
,
 
.
r
e
f
 
h
c
o
l
,
 
.
r
e
f
 
h
a
n
s
,
 
.
i
n
t
 
c
f
o
r
,
 
.
i
n
t
 
c
b
a
c
k
,
 
.
i
n
t
 
t
_
2
5
.
2
.
2
]
)
)
,
 
(
h
l
k
,
 
.
i
n
r
 
(
3
,
 
[
.
r
e
f
 
h
v
,
 
.
r
e
f
 
h
t
,
 
.
r
e
f
 
h
p
a
d
,
 
.
r
e
f
 
h
c
h
k
]
)
)
,
 
(
h
v
,
 
.
i
n
r
 
(
1
0
,
 
[
.
i
n
t
 
(
n
I
 
r
v
)
,
 
.
r
e
f
 
h
u
s
e
r
,
 
.
r
e
f
 
h
o
w
n
e
r
,
 
.
r
e
f
 
h
t
r
i
e
d
,
 
.
r
e
f
 
h
i
d
e
n
t
,
 
.
r
e
f
 
h
t
a
p
e
,
 
.
i
n
t
 
g
i
v
e
n
,
 
.
r
e
f
 
h
s
e
c
r
e
t
,
 
.
r
e
f
 
q
e
n
t
,
 
.
r
e
f
 
h
n
o
e
,
 
.
i
n
t
 
p
e
r
m
,
 
.
i
n
t
 
p
l
a
i
n
]
)
)
]
 
:
=
 
h
D
_
2
4


 
 
 
 
c
l
e
a
r
 
h
P
 
h
D
 
h
S


 
 
 
 
r
e
f
i
n
e
 
l
v
_
i
2
l
 
(
v
 
:
=
 
t
_
2
5
.
2
.
1
.
t
o
I
n
t
6
4
)
 
h
x
 
h
b
 
d
L
_
f
i
l
t
e
r
_
7
 
r
f
l
 
?
_


 
 
 
 
r
e
f
i
n
e
 
v
a
_
l
a
s
t
 
h
x
 
h
b
 
h
L
 
h
P
_
2
4
 
h
D
_
2
4
 
h
S
_
2
4
 
0
 
2
 
r
f
l
 
r
f
l
 
(
b
y
 
d
e
c
i
d
e
)
 
d
L
_
f
i
l
t
e
r
_
8
 
(
f
u
n
 
H
_
3
3
 
l
o
c
s
_
3
3
 
h
P
_
3
3
 
h
D
_
3
3
 
h
S
_
3
3
 
=
>
 
?
_
)


 
 
 
 
r
e
p
l
a
c
e
 
h
P
_
3
3
 
:
 
v
a
_
P
 
E
.
1
 
v
w
C
l
 
[
(
a
o
u
t
,
 
.
i
n
l
 
(
c
L
,
 
1
,
 
.
i
n
r
 
(
.
i
n
l
 
(
v
p
_
u
p
d
L
 
g
g
 
(
0
 
:
 
I
n
t
3
2
)
.
t
o
N
a
t
C
l
a
m
p
N
e
g
 
(
t
_
2
5
.
2
.
1
.
t
o
I
n
t
6
4
)
)
)
)
)
,
 
(
h
,
 
.
i
n
r
 
(
1
1
,
 
[
.
r
e
f
 
h
l
k
,
 
.
r
e
f
 
h
v
,
 
.
r
e
f
 
h
t
,
 
.
r
e
f
 
h
c
o
l
,
 
.
r
e
f
 
h
a
n
s
,
 
.
i
n
t
 
c
f
o
r
,
 
.
i
n
t
 
c
b
a
c
k
,
 
.
i
n
t
 
t
_
2
5
.
2
.
2
]
)
)
,
 
(
h
l
k
,
 
.
i
n
r
 
(
3
,
 
[
.
r
e
f
 
h
v
,
 
.
r
e
f
 
h
t
,
 
.
r
e
f
 
h
p
a
d
,
 
.
r
e
f
 
h
c
h
k
]
)
)
,
 
(
h
v
,
 
.
i
n
r
 
(
1
0
,
 
[
.
i
n
t
 
(
n
I
 
r
v
)
,
 
.
r
e
f
 
h
u
s
e
r
,
 
.
r
e
f
 
h
o
w
n
e
r
,
 
.
r
e
f
 
h
t
r
i
e
d
,
 
.
r
e
f
 
h
i
d
e
n
t
,
 
.
r
e
f
 
h
t
a
p
e
,
 
.
i
n
t
 
g
i
v
e
n
,
 
.
r
e
f
 
h
s
e
c
r
e
t
,
 
.
r
e
f
 
q
e
n
t
,
 
.
r
e
f
 
h
n
o
e
,
 
.
i
n
t
 
p
e
r
m
,
 
.
i
n
t
 
p
l
a
i
n
]
)
)
]
 
H
_
3
3
 
:
=
 
h
P
_
3
3


 
 
 
 
r
e
p
l
a
c
e
 
h
D
_
3
3
 
:
 
v
a
_
D
 
A
 
[
(
a
o
u
t
,
 
.
i
n
l
 
(
c
L
,
 
1
,
 
.
i
n
r
 
(
.
i
n
l
 
(
v
p
_
u
p
d
L
 
g
g
 
(
0
 
:
 
I
n
t
3
2
)
.
t
o
N
a
t
C
l
a
m
p
N
e
g
 
(
t
_
2
5
.
2
.
1
.
t
o
I
n
t
6
4
)
)
)
)
)
,
 
(
h
,
 
.
i
n
r
 
(
1
1
,
 
[
.
r
e
f
 
h
l
k
,
 
.
r
e
f
 
h
v
,
 
.
r
e
f
 
h
t
,
 
.
r
e
f
 
h
c
o
l
,
 
.
r
e
f
 
h
a
n
s
,
 
.
i
n
t
 
c
f
o
r
,
 
.
i
n
t
 
c
b
a
c
k
,
 
.
i
n
t
 
t
_
2
5
.
2
.
2
]
)
)
,
 
(
h
l
k
,
 
.
i
n
r
 
(
3
,
 
[
.
r
e
f
 
h
v
,
 
.
r
e
f
 
h
t
,
 
.
r
e
f
 
h
p
a
d
,
 
.
r
e
f
 
h
c
h
k
]
)
)
,
 
(
h
v
,
 
.
i
n
r
 
(
1
0
,
 
[
.
i
n
t
 
(
n
I
 
r
v
)
,
 
.
r
e
f
 
h
u
s
e
r
,
 
.
r
e
f
 
h
o
w
n
e
r
,
 
.
r
e
f
 
h
t
r
i
e
d
,
 
.
r
e
f
 
h
i
d
e
n
t
,
 
.
r
e
f
 
h
t
a
p
e
,
 
.
i
n
t
 
g
i
v
e
n
,
 
.
r
e
f
 
h
s
e
c
r
e
t
,
 
.
r
e
f
 
q
e
n
t
,
 
.
r
e
f
 
h
n
o
e
,
 
.
i
n
t
 
p
e
r
m
,
 
.
i
n
t
 
p
l
a
i
n
]
)
)
]
 
:
=
 
h
D
_
3
3


 
 
 
 
c
l
e
a
r
 
h
P
_
2
4
 
h
D
_
2
4
 
h
S
_
2
4


 
 
 
 
r
e
f
i
n
e
 
l
v
_
g
o
t
o
 
(
t
g
t
 
:
=
 
1
5
)
 
h
x
 
h
b
 
d
L
_
f
i
l
t
e
r
_
9
 
(
b
y
 
d
e
c
i
d
e
)
 
?
_


 
 
 
 
r
e
f
i
n
e
 
l
v
_
i
c
o
n
s
t
 
(
v
 
:
=
 
0
)
 
h
x
 
h
b
 
d
L
_
f
i
l
t
e
r
_
1
5
 
(
b
y
 
d
e
c
i
d
e
)
 
?
_


 
 
 
 
r
e
f
i
n
e
 
v
x
_
r
e
t
 
?
_


 
 
 
 
h
a
v
e
 
h
p
o
s
t
 
:
 
(
(
0
,
 
(
t
_
2
5
.
2
.
2
,
 
(
v
p
_
u
p
d
L
 
g
g
 
(
0
 
:
 
I
n
t
3
2
)
.
t
o
N
a
t
C
l
a
m
p
N
e
g
 
(
t
_
2
5
.
2
.
1
.
t
o
I
n
t
6
4
)
)
)
)
 
:
 
I
n
t
3
2
 
×
 
(
I
n
t
3
2
 
×
 
(
N
a
t
 
→
 
I
n
t
6
4
)
)
)
 
=
 
F
_
L
_
f
i
l
t
e
r
_
e
 
r
v
 
f
i
l
t
 
g
g
 
k
i
n
d
 
:
=
 
(
s
h
o
w
 
F
_
L
_
f
i
l
t
e
r
_
e
 
r
v
 
f
i
l
t
 
g
g
 
k
i
n
d
 
=
 
(
(
0
,
 
(
t
_
2
5
.
2
.
2
,
 
(
v
p
_
u
p
d
L
 
g
g
 
(
0
 
:
 
I
n
t
3
2
)
.
t
o
N
a
t
C
l
a
m
p
N
e
g
 
(
t
_
2
5
.
2
.
1
.
t
o
I
n
t
6
4
)
)
)
)
 
:
 
I
n
t
3
2
 
×
 
(
I
n
t
3
2
 
×
 
(
N
a
t
 
→
 
I
n
t
6
4
)
)
)
 
f
r
o
m
 
(
g
L
e
t
_
e
q
 
h
t
_
2
5
 
(
(
i
f
_
p
o
s
 
c
_
3
1
)
.
t
r
a
n
s
 
r
f
l
)
)
)
.
s
y
m
m


 
 
 
 
h
a
v
e
 
h
P
9
 
:
=
 
h
P
_
3
3
.
s
u
b
 
(
w
s
'
 
:
=
 
[
(
h
,
 
.
i
n
r
 
(
1
1
,
 
[
.
r
e
f
 
h
l
k
,
 
.
r
e
f
 
h
v
,
 
.
r
e
f
 
h
t
,
 
.
r
e
f
 
h
c
o
l
,
 
.
r
e
f
 
h
a
n
s
,
 
.
i
n
t
 
c
f
o
r
,
 
.
i
n
t
 
c
b
a
c
k
,
 
.
i
n
t
 
t
_
2
5
.
2
.
2
]
)
)
,
 
(
h
l
k
,
 
.
i
n
r
 
(
3
,
 
[
.
r
e
f
 
h
v
,
 
.
r
e
f
 
h
t
,
 
.
r
e
f
 
h
p
a
d
,
 
.
r
e
f
 
h
c
h
k
]
)
)
,
 
(
h
v
,
 
.
i
n
r
 
(
1
0
,
 
[
.
i
n
t
 
(
n
I
 
r
v
)
,
 
.
r
e
f
 
h
u
s
e
r
,
 
.
r
e
f
 
h
o
w
n
e
r
,
 
.
r
e
f
 
h
t
r
i
e
d
,
 
.
r
e
f
 
h
i
d
e
n
t
,
 
.
r
e
f
 
h
t
a
p
e
,
 
.
i
n
t
 
g
i
v
e
n
,
 
.
r
e
f
 
h
s
e
c
r
e
t
,
 
.
r
e
f
 
q
e
n
t
,
 
.
r
e
f
 
h
n
o
e
,
 
.
i
n
t
 
p
e
r
m
,
 
.
i
n
t
 
p
l
a
i
n
]
)
)
,
 
(
a
o
u
t
,
 
.
i
n
l
 
(
c
L
,
 
1
,
 
.
i
n
r
 
(
.
i
n
l
 
(
v
p
_
u
p
d
L
 
g
g
 
(
0
 
:
 
I
n
t
3
2
)
.
t
o
N
a
t
C
l
a
m
p
N
e
g
 
(
t
_
2
5
.
2
.
1
.
t
o
I
n
t
6
4
)
)
)
)
)
]
)
 
[
1
,
 
2
,
 
3
,
 
0
]
 
r
f
l


 
 
 
 
h
a
v
e
 
h
D
9
 
:
=
 
h
D
_
3
3
.
s
u
b
 
(
w
s
'
 
:
=
 
[
(
h
,
 
.
i
n
r
 
(
1
1
,
 
[
.
r
e
f
 
h
l
k
,
 
.
r
e
f
 
h
v
,
 
.
r
e
f
 
h
t
,
 
.
r
e
f
 
h
c
o
l
,
 
.
r
e
f
 
h
a
n
s
,
 
.
i
n
t
 
c
f
o
r
,
 
.
i
n
t
 
c
b
a
c
k
,
 
.
i
n
t
 
t
_
2
5
.
2
.
2
]
)
)
,
 
(
h
l
k
,
 
.
i
n
r
 
(
3
,
 
[
.
r
e
f
 
h
v
,
 
.
r
e
f
 
h
t
,
 
.
r
e
f
 
h
p
a
d
,
 
.
r
e
f
 
h
c
h
k
]
)
)
,
 
(
h
v
,
 
.
i
n
r
 
(
1
0
,
 
[
.
i
n
t
 
(
n
I
 
r
v
)
,
 
.
r
e
f
 
h
u
s
e
r
,
 
.
r
e
f
 
h
o
w
n
e
r
,
 
.
r
e
f
 
h
t
r
i
e
d
,
 
.
r
e
f
 
h
i
d
e
n
t
,
 
.
r
e
f
 
h
t
a
p
e
,
 
.
i
n
t
 
g
i
v
e
n
,
 
.
r
e
f
 
h
s
e
c
r
e
t
,
 
.
r
e
f
 
q
e
n
t
,
 
.
r
e
f
 
h
n
o
e
,
 
.
i
n
t
 
p
e
r
m
,
 
.
i
n
t
 
p
l
a
i
n
]
)
)
,
 
(
a
o
u
t
,
 
.
i
n
l
 
(
c
L
,
 
1
,
 
.
i
n
r
 
(
.
i
n
l
 
(
v
p
_
u
p
d
L
 
g
g
 
(
0
 
:
 
I
n
t
3
2
)
.
t
o
N
a
t
C
l
a
m
p
N
e
g
 
(
t
_
2
5
.
2
.
1
.
t
o
I
n
t
6
4
)
)
)
)
)
]
)
 
[
1
,
 
2
,
 
3
,
 
0
]
 
(
b
y
 
d
e
c
i
d
e
)
 
r
f
l


 
 
 
 
e
x
a
c
t
 
W
.
i
r
e
t
 
(
v
 
:
=
 
0
)
 
h
x
 
h
b
 
h
r
 
(
f
u
n
 
t
 
h
t
 
h
W
 
=
>
 
⟨
⟨
0
,
 
(
t
_
2
5
.
2
.
2
,
 
(
v
p
_
u
p
d
L
 
g
g
 
(
0
 
:
 
I
n
t
3
2
)
.
t
o
N
a
t
C
l
a
m
p
N
e
g
 
(
t
_
2
5
.
2
.
1
.
t
o
I
n
t
6
4
)
)
)
,
 
r
f
l
,
 
⟨
c
o
n
g
r
A
r
g
 
P
r
o
d
.
f
s
t
 
h
p
o
s
t
,
 
c
o
n
g
r
A
r
g
 
P
r
o
d
.
s
n
d
 
h
p
o
s
t
⟩
,
 
b
y
 
r
w
 
[
h
t
]
;
 
e
x
a
c
t
 
h
P
9
,
 
h
D
9
⟩
,
 
h
S
_
3
3
.
F
 
h
t
⟩
)
 
h
S
_
3
3
.
2
.
2
 
d
L
_
f
i
l
t
e
r
_
1
6


s
e
t
_
o
p
t
i
o
n
 
m
a
x
H
e
a
r
t
b
e
a
t
s
 
4
0
0
0
0
0
0
 
i
n


s
e
t
_
o
p
t
i
o
n
 
m
a
x
R
e
c
D
e
p
t
h
 
1
0
0
0
0
0
 
i
n


t
h
e
o
r
e
m
 
k
_
L
_
a
p
p
l
y
_
e
 
(
E
 
:
 
g
E
)
 
(
s
a
 
:
 
N
a
t
 
→
 
N
a
t
)
 
(
c
L
 
:
 
C
l
a
s
s
I
d
)
 
(
l
 
:
 
L
a
u
n
c
h
)
 
(
h
s
t
 
:
 
l
.
s
t
a
c
k
T
r
a
c
e
s
 
=
 
f
a
l
s
e
)
 
(
h
 
a
o
u
t
 
h
l
k
 
h
v
 
h
t
 
h
c
o
l
 
h
a
n
s
 
h
u
s
e
r
 
h
o
w
n
e
r
 
h
t
r
i
e
d
 
h
i
d
e
n
t
 
h
t
a
p
e
 
h
s
e
c
r
e
t
 
q
e
n
t
 
h
n
o
e
 
a
s
e
c
r
e
t
 
a
c
o
l
 
:
 
N
a
t
)
 
(
r
v
 
:
 
N
a
t
)
 
(
c
f
o
r
 
:
 
I
n
t
3
2
)
 
(
c
b
a
c
k
 
:
 
I
n
t
3
2
)
 
(
f
i
l
t
 
:
 
I
n
t
3
2
)
 
(
g
i
v
e
n
 
:
 
I
n
t
3
2
)
 
(
p
e
r
m
 
:
 
I
n
t
3
2
)
 
(
p
l
a
i
n
 
:
 
I
n
t
3
2
)
 
(
X
s
e
c
r
e
t
 
:
 
g
R
o
w
)
 
(
X
c
o
l
 
:
 
g
R
o
w
)
 
(
g
g
 
:
 
N
a
t
 
→
 
I
n
t
6
4
)
 
(
n
u
m
b
e
r
 
:
 
I
n
t
3
2
)
 
(
b
a
c
k
 
:
 
I
n
t
3
2
)
 
(
v
b
 
:
 
I
n
t
3
2
)
 
(
h
b
a
c
k
 
:
 
b
a
c
k
 
=
 
0
 
∨
 
b
a
c
k
 
=
 
1
)
 
:
 
g
H
i
 
E
 
s
a
 
c
L
 
l
 
y
L
_
a
p
p
l
y
 
w
s
L
_
a
p
p
l
y
 
(
{
 
f
r
a
m
e
s
 
:
=
 
7
,
 
c
e
l
l
s
 
:
=
 
1
,
 
s
l
o
t
s
 
:
=
 
6
,
 
l
o
c
a
l
s
 
:
=
 
1
0
5
 
}
)
 
1
 
6
 
[
.
r
e
f
 
h
,
 
.
i
n
t
 
n
u
m
b
e
r
,
 
.
i
n
t
 
b
a
c
k
,
 
.
i
n
t
 
v
b
,
 
.
r
e
f
 
a
o
u
t
]
 
[
(
h
,
 
.
i
n
r
 
(
1
1
,
 
[
.
r
e
f
 
h
l
k
,
 
.
r
e
f
 
h
v
,
 
.
r
e
f
 
h
t
,
 
.
r
e
f
 
h
c
o
l
,
 
.
r
e
f
 
h
a
n
s
,
 
.
i
n
t
 
c
f
o
r
,
 
.
i
n
t
 
c
b
a
c
k
,
 
.
i
n
t
 
f
i
l
t
]
)
)
,
 
(
h
v
,
 
.
i
n
r
 
(
1
0
,
 
[
.
i
n
t
 
(
n
I
 
r
v
)
,
 
.
r
e
f
 
h
u
s
e
r
,
 
.
r
e
f
 
h
o
w
n
e
r
,
 
.
r
e
f
 
h
t
r
i
e
d
,
 
.
r
e
f
 
h
i
d
e
n
t
,
 
.
r
e
f
 
h
t
a
p
e
,
 
.
i
n
t
 
g
i
v
e
n
,
 
.
r
e
f
 
h
s
e
c
r
e
t
,
 
.
r
e
f
 
q
e
n
t
,
 
.
r
e
f
 
h
n
o
e
,
 
.
i
n
t
 
p
e
r
m
,
 
.
i
n
t
 
p
l
a
i
n
]
)
)
,
 
(
h
s
e
c
r
e
t
,
 
.
i
n
r
 
(
6
,
 
[
.
r
e
f
 
a
s
e
c
r
e
t
,
 
.
i
n
t
 
X
s
e
c
r
e
t
.
1
]
)
)
,
 
(
h
c
o
l
,
 
.
i
n
r
 
(
6
,
 
[
.
r
e
f
 
a
c
o
l
,
 
.
i
n
t
 
X
c
o
l
.
1
]
)
)
,
 
(
a
c
o
l
,
 
.
i
n
l
 
(
E
.
2
.
1
,
 
4
0
0
,
 
.
i
n
l
 
X
c
o
l
.
2
)
)
,
 
(
a
o
u
t
,
 
.
i
n
l
 
(
c
L
,
 
1
,
 
.
i
n
r
 
(
.
i
n
l
 
g
g
)
)
)
]
 
(
f
u
n
 
(
r
r
 
:
 
I
n
t
3
2
)
 
(
u
u
 
:
 
I
n
t
3
2
 
×
 
I
n
t
3
2
 
×
 
g
R
o
w
 
×
 
(
N
a
t
 
→
 
I
n
t
6
4
)
)
 
=
>
 
r
r
 
=
 
(
F
_
L
_
a
p
p
l
y
_
e
 
c
f
o
r
 
c
b
a
c
k
 
X
s
e
c
r
e
t
 
X
c
o
l
 
g
g
 
n
u
m
b
e
r
 
b
a
c
k
 
v
b
)
.
1
 
∧
 
u
u
 
=
 
(
F
_
L
_
a
p
p
l
y
_
e
 
c
f
o
r
 
c
b
a
c
k
 
X
s
e
c
r
e
t
 
X
c
o
l
 
g
g
 
n
u
m
b
e
r
 
b
a
c
k
 
v
b
)
.
2
)
 
(
f
u
n
 
(
u
u
 
:
 
I
n
t
3
2
 
×
 
I
n
t
3
2
 
×
 
g
R
o
w
 
×
 
(
N
a
t
 
→
 
I
n
t
6
4
)
)
 
=
>
 
[
(
h
,
 
.
i
n
r
 
(
1
1
,
 
[
.
r
e
f
 
h
l
k
,
 
.
r
e
f
 
h
v
,
 
.
r
e
f
 
h
t
,
 
.
r
e
f
 
h
c
o
l
,
 
.
r
e
f
 
h
a
n
s
,
 
.
i
n
t
 
u
u
.
1
,
 
.
i
n
t
 
u
u
.
2
.
1
,
 
.
i
n
t
 
f
i
l
t
]
)
)
,
 
(
h
v
,
 
.
i
n
r
 
(
1
0
,
 
[
.
i
n
t
 
(
n
I
 
r
v
)
,
 
.
r
e
f
 
h
u
s
e
r
,
 
.
r
e
f
 
h
o
w
n
e
r
,
 
.
r
e
f
 
h
t
r
i
e
d
,
 
.
r
e
f
 
h
i
d
e
n
t
,
 
.
r
e
f
 
h
t
a
p
e
,
 
.
i
n
t
 
g
i
v
e
n
,
 
.
r
e
f
 
h
s
e
c
r
e
t
,
 
.
r
e
f
 
q
e
n
t
,
 
.
r
e
f
 
h
n
o
e
,
 
.
i
n
t
 
p
e
r
m
,
 
.
i
n
t
 
p
l
a
i
n
]
)
)
,
 
(
h
s
e
c
r
e
t
,
 
.
i
n
r
 
(
6
,
 
[
.
r
e
f
 
a
s
e
c
r
e
t
,
 
.
i
n
t
 
X
s
e
c
r
e
t
.
1
]
)
)
,
 
(
h
c
o
l
,
 
.
i
n
r
 
(
6
,
 
[
.
r
e
f
 
a
c
o
l
,
 
.
i
n
t
 
u
u
.
2
.
2
.
1
.
1
]
)
)
,
 
(
a
c
o
l
,
 
.
i
n
l
 
(
E
.
2
.
1
,
 
4
0
0
,
 
.
i
n
l
 
u
u
.
2
.
2
.
1
.
2
)
)
,
 
(
a
o
u
t
,
 
.
i
n
l
 
(
c
L
,
 
1
,
 
.
i
n
r
 
(
.
i
n
l
 
u
u
.
2
.
2
.
2
)
)
)
]
)
 
:
=
 
b
y


 
 
i
n
t
r
o
 
s
z


 
 
r
e
f
i
n
e
 
v
x
_
o
f
W
H
 
(
h
h
 
:
=
 
[
(
0
,
 
1
2
,
 
1
5
,
 
2
6
)
,
 
(
0
,
 
1
2
,
 
1
9
,
 
1
3
)
]
)
 
(
c
c
 
:
=
 
c
L
_
a
p
p
l
y
)
 
(
m
a
x
L
 
:
=
 
6
)
 
(
r
e
t
 
:
=
 
(
s
o
m
e
 
.
i
n
t
)
)
 
(
b
y
 
d
e
c
i
d
e
)
 
r
f
l
 
?
_


 
 
i
n
t
r
o
 
p
 
e
 
s
 
m
 
a
r
g
s
 
b
e
l
o
w
 
m
e
t
h
 
c
 
s
₁
 
B
 
h
m
l
 
h
v


 
 
o
b
t
a
i
n
 
⟨
r
f
l
,
 
h
s
z
,
 
h
P
,
 
⟨
h
V
,
 
h
X
,
 
h
L
⟩
,
 
h
D
0
⟩
 
:
=
 
h
v


 
 
h
a
v
e
 
h
x
 
:
=
 
B
.
e
x
e
c


 
 
h
a
v
e
 
h
b
 
:
=
 
B
.
b
y
t
e
s


 
 
h
a
v
e
 
h
r
 
:
=
 
B
.
r
e
t
u
r
n
s


 
 
h
a
v
e
 
h
t
s
 
:
=
 
a
t
o
m
s
_
s
p
e
c
 
(
w
s
 
:
=
 
w
s
L
_
a
p
p
l
y
)
 
B
.
p
r
e


 
 
h
a
v
e
 
h
o
w
n
 
:
 
s
.
v
m
.
f
i
n
d
C
l
a
s
s
 
R
L
 
=
 
s
o
m
e
 
m
.
c
l
s
 
:
=
 
f
i
n
d
C
l
a
s
s
_
o
f
_
m
e
t
h
o
d
N
a
m
e
d
 
B
.
n
a
m
e
d


 
 
h
a
v
e
 
h
l
o
c
k
s
 
:
=
 
B
.
n
o
t
S
y
n
c
h
r
o
n
i
z
e
d


 
 
h
a
v
e
 
h
t
a
b
 
:
=
 
v
x
_
t
a
b
l
e
 
B
 
(
h
t
s
 
(
.
c
o
d
e
W
i
t
h
 
y
L
_
a
p
p
l
y
 
c
L
_
a
p
p
l
y
 
6
 
(
s
o
m
e
 
.
i
n
t
)
 
[
(
0
,
 
1
2
,
 
1
5
,
 
2
6
)
,
 
(
0
,
 
1
2
,
 
1
9
,
 
1
3
)
]
)
 
(
b
y
 
d
e
c
i
d
e
 
+
k
e
r
n
e
l
)
)


 
 
s
u
b
s
t
 
h
s
z


 
 
h
a
v
e
 
h
D
 
:
=
 
h
D
0
.
s
e
l
f
 
(
s
z
 
:
=
 
s
.
h
e
a
p
.
s
i
z
e
)


 
 
c
l
e
a
r
 
h
D
0


 
 
g
e
n
e
r
a
l
i
z
e
 
h
A
e
 
:
 
v
a
_
A
 
[
(
h
,
 
.
i
n
r
 
(
1
1
,
 
[
.
r
e
f
 
h
l
k
,
 
.
r
e
f
 
h
v
,
 
.
r
e
f
 
h
t
,
 
.
r
e
f
 
h
c
o
l
,
 
.
r
e
f
 
h
a
n
s
,
 
.
i
n
t
 
c
f
o
r
,
 
.
i
n
t
 
c
b
a
c
k
,
 
.
i
n
t
 
f
i
l
t
]
)
)
,
 
(
h
v
,
 
.
i
n
r
 
(
1
0
,
 
[
.
i
n
t
 
(
n
I
 
r
v
)
,
 
.
r
e
f
 
h
u
s
e
r
,
 
.
r
e
f
 
h
o
w
n
e
r
,
 
.
r
e
f
 
h
t
r
i
e
d
,
 
.
r
e
f
 
h
i
d
e
n
t
,
 
.
r
e
f
 
h
t
a
p
e
,
 
.
i
n
t
 
g
i
v
e
n
,
 
.
r
e
f
 
h
s
e
c
r
e
t
,
 
.
r
e
f
 
q
e
n
t
,
 
.
r
e
f
 
h
n
o
e
,
 
.
i
n
t
 
p
e
r
m
,
 
.
i
n
t
 
p
l
a
i
n
]
)
)
,
 
(
h
s
e
c
r
e
t
,
 
.
i
n
r
 
(
6
,
 
[
.
r
e
f
 
a
s
e
c
r
e
t
,
 
.
i
n
t
 
X
s
e
c
r
e
t
.
1
]
)
)
,
 
(
h
c
o
l
,
 
.
i
n
r
 
(
6
,
 
[
.
r
e
f
 
a
c
o
l
,
 
.
i
n
t
 
X
c
o
l
.
1
]
)
)
,
 
(
a
c
o
l
,
 
.
i
n
l
 
(
E
.
2
.
1
,
 
4
0
0
,
 
.
i
n
l
 
X
c
o
l
.
2
)
)
,
 
(
a
o
u
t
,
 
.
i
n
l
 
(
c
L
,
 
1
,
 
.
i
n
r
 
(
.
i
n
l
 
g
g
)
)
)
]
 
s
.
h
e
a
p
.
s
i
z
e
 
=
 
A
 
a
t
 
h
D
 
h
V
 
h
X
 
⊢


 
 
h
a
v
e
 
h
A
 
:
 
∀
 
q
 
:
 
N
a
t
,
 
s
.
h
e
a
p
.
s
i
z
e
 
≤
 
q
 
→
 
A
 
q
 
:
=
 
f
u
n
 
q
 
h
 
=
>
 
b
y
 
r
w
 
[
←
 
h
A
e
]
;
 
e
x
a
c
t
 
O
r
.
i
n
r
 
h


 
 
h
a
v
e
 
h
S
 
:
 
v
a
_
S
 
A
 
s
.
h
e
a
p
 
s
.
h
e
a
p
 
[
]
 
:
=
 
v
a
_
S
.
r
f


 
 
h
a
v
e
 
h
K
 
:
=
 
h
V
.
1


 
 
h
a
v
e
 
h
F
 
:
 
C
a
l
l
F
i
x
 
p
 
m
 
c
 
c
L
_
a
p
p
l
y
 
6
 
s
 
_
 
w
s
L
_
a
p
p
l
y
 
R
L
 
:
=
 
⟨
h
x
,
 
h
b
,
 
h
m
l
,
 
h
o
w
n
,
 
h
t
s
⟩


 
 
h
a
v
e
 
h
l
 
:
=
 
l
v
_
e
n
t
r
y
 
[
.
r
e
f
 
h
,
 
.
i
n
t
 
n
u
m
b
e
r
,
 
.
i
n
t
 
b
a
c
k
,
 
.
i
n
t
 
v
b
,
 
.
r
e
f
 
a
o
u
t
]
 
(
n
 
:
=
 
6
)
 
(
N
a
t
.
l
e
_
o
f
_
b
l
e
_
e
q
_
t
r
u
e
 
r
f
l
)


 
 
r
w
 
[
l
g
_
e
n
t
r
y
_
e
q
]


 
 
g
e
n
e
r
a
l
i
z
e
 
(
l
g
_
s
l
 
[
.
r
e
f
 
h
,
 
.
i
n
t
 
n
u
m
b
e
r
,
 
.
i
n
t
 
b
a
c
k
,
 
.
i
n
t
 
v
b
,
 
.
r
e
f
 
a
o
u
t
]
 
+
+
 
L
i
s
t
.
r
e
p
l
i
c
a
t
e
 
(
6
 
-
 
(
l
g
_
s
l
 
[
.
r
e
f
 
h
,
 
.
i
n
t
 
n
u
m
b
e
r
,
 
.
i
n
t
 
b
a
c
k
,
 
.
i
n
t
 
v
b
,
 
.
r
e
f
 
a
o
u
t
]
)
.
l
e
n
g
t
h
)
 
S
l
o
t
.
u
n
s
e
t
)
.
t
o
A
r
r
a
y
 
=
 
l
s
 
a
t
 
h
l
 
⊢


 
 
h
a
v
e
 
h
l
 
:
 
l
v
_
h
a
s
 
l
s
 
6
 
[
(
0
,
 
.
r
e
f
 
h
)
,
 
(
1
,
 
.
i
n
t
 
n
u
m
b
e
r
)
,
 
(
2
,
 
.
i
n
t
 
b
a
c
k
)
,
 
(
3
,
 
.
i
n
t
 
v
b
)
,
 
(
4
,
 
.
r
e
f
 
a
o
u
t
)
]
 
:
=
 
h
l


 
 
h
a
v
e
 
w
_
0
 
:
=
 
h
t
s
 
(
.
c
l
a
s
s
L
i
n
k
 
R
L
 
2
6
 
"
j
a
v
a
/
l
a
n
g
/
I
l
l
e
g
a
l
S
t
a
t
e
E
x
c
e
p
t
i
o
n
"
)
 
(
b
y
 
d
e
c
i
d
e
 
+
k
e
r
n
e
l
)


 
 
h
a
v
e
 
w
_
1
 
:
=
 
h
t
s
 
(
.
c
l
a
s
s
L
i
n
k
 
R
L
 
1
3
 
"
j
a
v
a
/
l
a
n
g
/
U
n
s
u
p
p
o
r
t
e
d
O
p
e
r
a
t
i
o
n
E
x
c
e
p
t
i
o
n
"
)
 
(
b
y
 
d
e
c
i
d
e
 
+
k
e
r
n
e
l
)


 
 
r
e
f
i
n
e
 
l
v
_
a
l
o
a
d
 
h
x
 
h
b
 
d
L
_
a
p
p
l
y
_
0
 
(
l
v
_
a
t
 
h
l
 
4
 
r
f
l
)
 
?
_


 
 
r
e
f
i
n
e
 
l
v
_
i
c
o
n
s
t
 
(
v
 
:
=
 
0
)
 
h
x
 
h
b
 
d
L
_
a
p
p
l
y
_
2
 
(
b
y
 
d
e
c
i
d
e
)
 
?
_


 
 
r
e
f
i
n
e
 
l
v
_
a
l
o
a
d
_
n
 
h
x
 
h
b
 
d
L
_
a
p
p
l
y
_
3
 
r
f
l
 
(
l
v
_
a
t
 
h
l
 
0
 
r
f
l
)
 
?
_


 
 
r
e
f
i
n
e
 
l
v
_
i
l
o
a
d
_
n
 
h
x
 
h
b
 
d
L
_
a
p
p
l
y
_
4
 
r
f
l
 
(
l
v
_
a
t
 
h
l
 
1
 
r
f
l
)
 
?
_


 
 
r
e
f
i
n
e
 
l
v
_
i
l
o
a
d
_
n
 
h
x
 
h
b
 
d
L
_
a
p
p
l
y
_
5
 
r
f
l
 
(
l
v
_
a
t
 
h
l
 
2
 
r
f
l
)
 
?
_


 
 
r
e
f
i
n
e
 
l
v
_
i
l
o
a
d
_
n
 
h
x
 
h
b
 
d
L
_
a
p
p
l
y
_
6
 
r
f
l
 
(
l
v
_
a
t
 
h
l
 
3
 
r
f
l
)
 
?
_


 
 
o
b
t
a
i
n
 
⟨
t
_
2
9
,
 
h
t
_
2
9
⟩
 
:
 
∃
 
t
9
 
:
 
N
a
t
 
×
 
(
I
n
t
3
2
 
×
 
(
I
n
t
3
2
 
×
 
I
n
t
3
2
 
×
 
g
R
o
w
)
)
,
 
t
9
 
=
 
F
_
X
1
0
_
a
p
p
l
y
_
e
 
c
f
o
r
 
c
b
a
c
k
 
X
s
e
c
r
e
t
 
X
c
o
l
 
n
u
m
b
e
r
 
b
a
c
k
 
v
b
 
:
=
 
⟨
_
,
 
r
f
l
⟩


 
 
r
e
f
i
n
e
 
g
T
V
i
 
h
F
 
h
l
 
h
V
 
h
X
 
h
P
 
h
D
 
h
S
 
h
A
 
[
0
,
 
1
,
 
2
,
 
3
,
 
4
]
 
[
5
]
 
(
w
c
 
:
=
 
[
(
h
,
 
.
i
n
r
 
(
1
1
,
 
[
.
r
e
f
 
h
l
k
,
 
.
r
e
f
 
h
v
,
 
.
r
e
f
 
h
t
,
 
.
r
e
f
 
h
c
o
l
,
 
.
r
e
f
 
h
a
n
s
,
 
.
i
n
t
 
c
f
o
r
,
 
.
i
n
t
 
c
b
a
c
k
,
 
.
i
n
t
 
f
i
l
t
]
)
)
,
 
(
h
v
,
 
.
i
n
r
 
(
1
0
,
 
[
.
i
n
t
 
(
n
I
 
r
v
)
,
 
.
r
e
f
 
h
u
s
e
r
,
 
.
r
e
f
 
h
o
w
n
e
r
,
 
.
r
e
f
 
h
t
r
i
e
d
,
 
.
r
e
f
 
h
i
d
e
n
t
,
 
.
r
e
f
 
h
t
a
p
e
,
 
.
i
n
t
 
g
i
v
e
n
,
 
.
r
e
f
 
h
s
e
c
r
e
t
,
 
.
r
e
f
 
q
e
n
t
,
 
.
r
e
f
 
h
n
o
e
,
 
.
i
n
t
 
p
e
r
m
,
 
.
i
n
t
 
p
l
a
i
n
]
)
)
,
 
(
h
s
e
c
r
e
t
,
 
.
i
n
r
 
(
6
,
 
[
.
r
e
f
 
a
s
e
c
r
e
t
,
 
.
i
n
t
 
X
s
e
c
r
e
t
.
1
]
)
)
,
 
(
h
c
o
l
,
 
.
i
n
r
 
(
6
,
 
[
.
r
e
f
 
a
c
o
l
,
 
.
i
n
t
 
X
c
o
l
.
1
]
)
)
,
 
(
a
c
o
l
,
 
.
i
n
l
 
(
E
.
2
.
1
,
 
4
0
0
,
 
.
i
n
l
 
X
c
o
l
.
2
)
)
]
)
 
(
w
r
 
:
=
 
[
(
a
o
u
t
,
 
.
i
n
l
 
(
c
L
,
 
1
,
 
.
i
n
r
 
(
.
i
n
l
 
g
g
)
)
)
]
)
 
r
f
l
 
r
f
l
 
r
f
l
 
(
b
y
 
d
e
c
i
d
e
)
 
0
 
1
1
 
r
f
l
 
r
f
l
 
r
f
l
 
(
k
_
X
1
0
_
a
p
p
l
y
_
e
 
E
 
s
a
 
l
 
h
s
t
 
h
 
h
l
k
 
h
v
 
h
t
 
h
c
o
l
 
h
a
n
s
 
h
u
s
e
r
 
h
o
w
n
e
r
 
h
t
r
i
e
d
 
h
i
d
e
n
t
 
h
t
a
p
e
 
h
s
e
c
r
e
t
 
q
e
n
t
 
h
n
o
e
 
a
s
e
c
r
e
t
 
a
c
o
l
 
r
v
 
c
f
o
r
 
c
b
a
c
k
 
f
i
l
t
 
g
i
v
e
n
 
p
e
r
m
 
p
l
a
i
n
 
X
s
e
c
r
e
t
 
X
c
o
l
 
n
u
m
b
e
r
 
b
a
c
k
 
v
b
 
h
b
a
c
k
)
 
(
c
w
V
 
3
 
h
t
s
 
g
L
_
a
p
p
l
y
_
X
1
0
_
a
p
p
l
y
 
r
f
l
 
r
f
l
 
r
f
l
 
(
b
y
 
d
e
c
i
d
e
 
+
k
e
r
n
e
l
)
 
⟨
N
a
t
.
l
e
_
o
f
_
b
l
e
_
e
q
_
t
r
u
e
 
r
f
l
,
 
N
a
t
.
l
e
_
o
f
_
b
l
e
_
e
q
_
t
r
u
e
 
r
f
l
⟩
)
 
r
f
l
 
r
f
l
 
r
f
l
 
(
N
a
t
.
l
e
_
o
f
_
b
l
e
_
e
q
_
t
r
u
e
 
r
f
l
)
 
d
L
_
a
p
p
l
y
_
7
 
⟨
N
a
t
.
l
e
_
o
f
_
b
l
e
_
e
q
_
t
r
u
e
 
r
f
l
,
 
N
a
t
.
l
e
_
o
f
_
b
l
e
_
e
q
_
t
r
u
e
 
r
f
l
⟩
 
(
f
u
n
 
n
m
_
3
0
 
c
e
_
3
0
 
q
_
3
0
 
H
_
3
1
 
l
o
c
s
_
3
1
 
p
x
_
3
0
 
h
P
_
3
1
 
h
D
_
3
1
 
h
S
_
3
1
 
h
c
e
_
3
0
 
h
c
v
_
3
0
 
h
c
l
_
3
0
 
=
>
 
?
_
)
 
(
f
u
n
 
r
_
2
7
 
u
_
2
7
 
H
_
2
8
 
l
o
c
s
_
2
8
 
h
u
_
2
7
 
h
P
_
2
8
 
h
D
_
2
8
 
h
S
_
2
8
 
=
>
 
?
_
)


 
 
·
 
r
e
p
l
a
c
e
 
h
P
_
3
1
 
:
 
v
a
_
P
 
E
.
1
 
v
w
C
l
 
[
(
a
o
u
t
,
 
.
i
n
l
 
(
c
L
,
 
1
,
 
.
i
n
r
 
(
.
i
n
l
 
g
g
)
)
)
,
 
(
h
,
 
.
i
n
r
 
(
1
1
,
 
[
.
r
e
f
 
h
l
k
,
 
.
r
e
f
 
h
v
,
 
.
r
e
f
 
h
t
,
 
.
r
e
f
 
h
c
o
l
,
 
.
r
e
f
 
h
a
n
s
,
 
.
i
n
t
 
c
f
o
r
,
 
.
i
n
t
 
c
b
a
c
k
,
 
.
i
n
t
 
f
i
l
t
]
)
)
,
 
(
h
v
,
 
.
i
n
r
 
(
1
0
,
 
[
.
i
n
t
 
(
n
I
 
r
v
)
,
 
.
r
e
f
 
h
u
s
e
r
,
 
.
r
e
f
 
h
o
w
n
e
r
,
 
.
r
e
f
 
h
t
r
i
e
d
,
 
.
r
e
f
 
h
i
d
e
n
t
,
 
.
r
e
f
 
h
t
a
p
e
,
 
.
i
n
t
 
g
i
v
e
n
,
 
.
r
e
f
 
h
s
e
c
r
e
t
,
 
.
r
e
f
 
q
e
n
t
,
 
.
r
e
f
 
h
n
o
e
,
 
.
i
n
t
 
p
e
r
m
,
 
.
i
n
t
 
p
l
a
i
n
]
)
)
,
 
(
h
s
e
c
r
e
t
,
 
.
i
n
r
 
(
6
,
 
[
.
r
e
f
 
a
s
e
c
r
e
t
,
 
.
i
n
t
 
X
s
e
c
r
e
t
.
1
]
)
)
,
 
(
h
c
o
l
,
 
.
i
n
r
 
(
6
,
 
[
.
r
e
f
 
a
c
o
l
,
 
.
i
n
t
 
X
c
o
l
.
1
]
)
)
,
 
(
a
c
o
l
,
 
.
i
n
l
 
(
E
.
2
.
1
,
 
4
0
0
,
 
.
i
n
l
 
X
c
o
l
.
2
)
)
]
 
H
_
3
1
 
:
=
 
h
P
_
3
1


 
 
 
 
r
e
p
l
a
c
e
 
h
D
_
3
1
 
:
 
v
a
_
D
 
A
 
[
(
a
o
u
t
,
 
.
i
n
l
 
(
c
L
,
 
1
,
 
.
i
n
r
 
(
.
i
n
l
 
g
g
)
)
)
,
 
(
h
,
 
.
i
n
r
 
(
1
1
,
 
[
.
r
e
f
 
h
l
k
,
 
.
r
e
f
 
h
v
,
 
.
r
e
f
 
h
t
,
 
.
r
e
f
 
h
c
o
l
,
 
.
r
e
f
 
h
a
n
s
,
 
.
i
n
t
 
c
f
o
r
,
 
.
i
n
t
 
c
b
a
c
k
,
 
.
i
n
t
 
f
i
l
t
]
)
)
,
 
(
h
v
,
 
.
i
n
r
 
(
1
0
,
 
[
.
i
n
t
 
(
n
I
 
r
v
)
,
 
.
r
e
f
 
h
u
s
e
r
,
 
.
r
e
f
 
h
o
w
n
e
r
,
 
.
r
e
f
 
h
t
r
i
e
d
,
 
.
r
e
f
 
h
i
d
e
n
t
,
 
.
r
e
f
 
h
t
a
p
e
,
 
.
i
n
t
 
g
i
v
e
n
,
 
.
r
e
f
 
h
s
e
c
r
e
t
,
 
.
r
e
f
 
q
e
n
t
,
 
.
r
e
f
 
h
n
o
e
,
 
.
i
n
t
 
p
e
r
m
,
 
.
i
n
t
 
p
l
a
i
n
]
)
)
,
 
(
h
s
e
c
r
e
t
,
 
.
i
n
r
 
(
6
,
 
[
.
r
e
f
 
a
s
e
c
r
e
t
,
 
.
i
n
t
 
X
s
e
c
r
e
t
.
1
]
)
)
,
 
(
h
c
o
l
,
 
.
i
n
r
 
(
6
,
 
[
.
r
e
f
 
a
c
o
l
,
 
.
i
n
t
 
X
c
o
l
.
1
]
)
)
,
 
(
a
c
o
l
,
 
.
i
n
l
 
(
E
.
2
.
1
,
 
4
0
0
,
 
.
i
n
l
 
X
c
o
l
.
2
)
)
]
 
:
=
 
h
D
_
3
1


 
 
 
 
c
l
e
a
r
 
h
P
 
h
D
 
h
S


 
 
 
 
h
a
v
e
 
c
_
3
2
 
:
 
¬
 
t
_
2
9
.
1
 
=
 
0
 
:
=
 
b
y
 
r
w
 
[
h
t
_
2
9
]
;
 
e
x
a
c
t
 
p
x
_
3
0
.
2


 
 
 
 
b
y
_
c
a
s
e
s
 
c
_
3
3
 
:
 
t
_
2
9
.
1
 
=
 
3


 
 
 
 
·
 
o
b
t
a
i
n
 
r
f
l
 
:
 
n
m
_
3
0
 
=
 
"
j
a
v
a
/
l
a
n
g
/
I
l
l
e
g
a
l
S
t
a
t
e
E
x
c
e
p
t
i
o
n
"
 
:
=
 
p
x
_
3
0
.
1
.
t
r
a
n
s
 
(
b
y
 
r
w
 
[
←
 
h
t
_
2
9
,
 
c
_
3
3
]
;
 
r
f
l
)


 
 
 
 
 
 
r
e
f
i
n
e
 
v
x
_
c
a
t
c
h
 
h
o
w
n
 
[
]
 
⟨
0
,
 
1
2
,
 
1
5
,
 
2
6
⟩
 
[
⟨
0
,
 
1
2
,
 
1
9
,
 
1
3
⟩
]
 
(
b
y
 
r
w
 
[
h
t
a
b
]
;
 
r
f
l
)
 
(
f
u
n
 
z
 
h
9
 
=
>
 
a
b
s
u
r
d
 
h
9
 
L
i
s
t
.
n
o
t
_
m
e
m
_
n
i
l
)
 
(
b
y
 
d
e
c
i
d
e
)
 
(
b
y
 
d
e
c
i
d
e
)
 
w
_
0
 
(
v
a
_
N
w
.
u
s
e
 
r
f
l
 
(
h
X
.
2
.
1
 
(
.
c
a
s
t
a
b
l
e
 
"
j
a
v
a
/
l
a
n
g
/
I
l
l
e
g
a
l
S
t
a
t
e
E
x
c
e
p
t
i
o
n
"
 
"
j
a
v
a
/
l
a
n
g
/
I
l
l
e
g
a
l
S
t
a
t
e
E
x
c
e
p
t
i
o
n
"
)
 
(
b
y
 
d
e
c
i
d
e
 
+
k
e
r
n
e
l
)
)
)
 
h
c
e
_
3
0
 
h
c
v
_
3
0
 
h
c
l
_
3
0
 
?
_


 
 
 
 
 
 
r
e
f
i
n
e
 
l
v
_
a
s
t
o
r
e
 
(
l
v
'
 
:
=
 
[
(
5
,
 
.
r
e
f
 
q
_
3
0
)
,
 
(
0
,
 
.
r
e
f
 
h
)
,
 
(
1
,
 
.
i
n
t
 
n
u
m
b
e
r
)
,
 
(
2
,
 
.
i
n
t
 
b
a
c
k
)
,
 
(
3
,
 
.
i
n
t
 
v
b
)
,
 
(
4
,
 
.
r
e
f
 
a
o
u
t
)
]
)
 
h
x
 
h
b
 
d
L
_
a
p
p
l
y
_
1
5
 
h
l
 
(
b
y
 
d
e
c
i
d
e
)
 
r
f
l
 
(
f
u
n
 
l
s
_
3
4
 
h
l
_
3
4
 
=
>
 
?
_
)


 
 
 
 
 
 
c
l
e
a
r
 
h
l


 
 
 
 
 
 
r
e
f
i
n
e
 
l
v
_
i
c
o
n
s
t
 
(
v
 
:
=
 
1
)
 
h
x
 
h
b
 
d
L
_
a
p
p
l
y
_
1
7
 
(
b
y
 
d
e
c
i
d
e
)
 
?
_


 
 
 
 
 
 
r
e
f
i
n
e
 
v
x
_
r
e
t
 
?
_


 
 
 
 
 
 
h
a
v
e
 
h
p
o
s
t
 
:
 
(
(
1
,
 
(
c
f
o
r
,
 
c
b
a
c
k
,
 
X
c
o
l
,
 
g
g
)
)
 
:
 
I
n
t
3
2
 
×
 
(
I
n
t
3
2
 
×
 
I
n
t
3
2
 
×
 
g
R
o
w
 
×
 
(
N
a
t
 
→
 
I
n
t
6
4
)
)
)
 
=
 
F
_
L
_
a
p
p
l
y
_
e
 
c
f
o
r
 
c
b
a
c
k
 
X
s
e
c
r
e
t
 
X
c
o
l
 
g
g
 
n
u
m
b
e
r
 
b
a
c
k
 
v
b
 
:
=
 
(
s
h
o
w
 
F
_
L
_
a
p
p
l
y
_
e
 
c
f
o
r
 
c
b
a
c
k
 
X
s
e
c
r
e
t
 
X
c
o
l
 
g
g
 
n
u
m
b
e
r
 
b
a
c
k
 
v
b
 
=
 
(
(
1
,
 
(
c
f
o
r
,
 
c
b
a
c
k
,
 
X
c
o
l
,
 
g
g
)
)
 
:
 
I
n
t
3
2
 
×
 
(
I
n
t
3
2
 
×
 
I
n
t
3
2
 
×
 
g
R
o
w
 
×
 
(
N
a
t
 
→
 
I
n
t
6
4
)
)
)
 
f
r
o
m
 
(
g
L
e
t
_
e
q
 
h
t
_
2
9
 
(
(
i
f
_
n
e
g
 
c
_
3
2
)
.
t
r
a
n
s
 
(
(
i
f
_
p
o
s
 
c
_
3
3
)
.
t
r
a
n
s
 
r
f
l
)
)
)
)
.
s
y
m
m


 
 
 
 
 
 
h
a
v
e
 
h
P
9
 
:
=
 
h
P
_
3
1
.
s
u
b
 
(
w
s
'
 
:
=
 
[
(
h
,
 
.
i
n
r
 
(
1
1
,
 
[
.
r
e
f
 
h
l
k
,
 
.
r
e
f
 
h
v
,
 
.
r
e
f
 
h
t
,
 
.
r
e
f
 
h
c
o
l
,
 
.
r
e
f
 
h
a
n
s
,
 
.
i
n
t
 
c
f
o
r
,
 
.
i
n
t
 
c
b
a
c
k
,
 
.
i
n
t
 
f
i
l
t
]
)
)
,
 
(
h
v
,
 
.
i
n
r
 
(
1
0
,
 
[
.
i
n
t
 
(
n
I
 
r
v
)
,
 
.
r
e
f
 
h
u
s
e
r
,
 
.
r
e
f
 
h
o
w
n
e
r
,
 
.
r
e
f
 
h
t
r
i
e
d
,
 
.
r
e
f
 
h
i
d
e
n
t
,
 
.
r
e
f
 
h
t
a
p
e
,
 
.
i
n
t
 
g
i
v
e
n
,
 
.
r
e
f
 
h
s
e
c
r
e
t
,
 
.
r
e
f
 
q
e
n
t
,
 
.
r
e
f
 
h
n
o
e
,
 
.
i
n
t
 
p
e
r
m
,
 
.
i
n
t
 
p
l
a
i
n
]
)
)
,
 
(
h
s
e
c
r
e
t
,
 
.
i
n
r
 
(
6
,
 
[
.
r
e
f
 
a
s
e
c
r
e
t
,
 
.
i
n
t
 
X
s
e
c
r
e
t
.
1
]
)
)
,
 
(
h
c
o
l
,
 
.
i
n
r
 
(
6
,
 
[
.
r
e
f
 
a
c
o
l
,
 
.
i
n
t
 
X
c
o
l
.
1
]
)
)
,
 
(
a
c
o
l
,
 
.
i
n
l
 
(
E
.
2
.
1
,
 
4
0
0
,
 
.
i
n
l
 
X
c
o
l
.
2
)
)
,
 
(
a
o
u
t
,
 
.
i
n
l
 
(
c
L
,
 
1
,
 
.
i
n
r
 
(
.
i
n
l
 
g
g
)
)
)
]
)
 
[
1
,
 
2
,
 
3
,
 
4
,
 
5
,
 
0
]
 
r
f
l


 
 
 
 
 
 
h
a
v
e
 
h
D
9
 
:
=
 
h
D
_
3
1
.
s
u
b
 
(
w
s
'
 
:
=
 
[
(
h
,
 
.
i
n
r
 
(
1
1
,
 
[
.
r
e
f
 
h
l
k
,
 
.
r
e
f
 
h
v
,
 
.
r
e
f
 
h
t
,
 
.
r
e
f
 
h
c
o
l
,
 
.
r
e
f
 
h
a
n
s
,
 
.
i
n
t
 
c
f
o
r
,
 
.
i
n
t
 
c
b
a
c
k
,
 
.
i
n
t
 
f
i
l
t
]
)
)
,
 
(
h
v
,
 
.
i
n
r
 
(
1
0
,
 
[
.
i
n
t
 
(
n
I
 
r
v
)
,
 
.
r
e
f
 
h
u
s
e
r
,
 
.
r
e
f
 
h
o
w
n
e
r
,
 
.
r
e
f
 
h
t
r
i
e
d
,
 
.
r
e
f
 
h
i
d
e
n
t
,
 
.
r
e
f
 
h
t
a
p
e
,
 
.
i
n
t
 
g
i
v
e
n
,
 
.
r
e
f
 
h
s
e
c
r
e
t
,
 
.
r
e
f
 
q
e
n
t
,
 
.
r
e
f
 
h
n
o
e
,
 
.
i
n
t
 
p
e
r
m
,
 
.
i
n
t
 
p
l
a
i
n
]
)
)
,
 
(
h
s
e
c
r
e
t
,
 
.
i
n
r
 
(
6
,
 
[
.
r
e
f
 
a
s
e
c
r
e
t
,
 
.
i
n
t
 
X
s
e
c
r
e
t
.
1
]
)
)
,
 
(
h
c
o
l
,
 
.
i
n
r
 
(
6
,
 
[
.
r
e
f
 
a
c
o
l
,
 
.
i
n
t
 
X
c
o
l
.
1
]
)
)
,
 
(
a
c
o
l
,
 
.
i
n
l
 
(
E
.
2
.
1
,
 
4
0
0
,
 
.
i
n
l
 
X
c
o
l
.
2
)
)
,
 
(
a
o
u
t
,
 
.
i
n
l
 
(
c
L
,
 
1
,
 
.
i
n
r
 
(
.
i
n
l
 
g
g
)
)
)
]
)
 
[
1
,
 
2
,
 
3
,
 
4
,
 
5
,
 
0
]
 
(
b
y
 
d
e
c
i
d
e
)
 
r
f
l


 
 
 
 
 
 
e
x
a
c
t
 
W
.
i
r
e
t
 
(
v
 
:
=
 
1
)
 
h
x
 
h
b
 
h
r
 
(
f
u
n
 
t
 
h
t
 
h
W
 
=
>
 
⟨
⟨
1
,
 
(
c
f
o
r
,
 
c
b
a
c
k
,
 
X
c
o
l
,
 
g
g
)
,
 
r
f
l
,
 
⟨
c
o
n
g
r
A
r
g
 
P
r
o
d
.
f
s
t
 
h
p
o
s
t
,
 
c
o
n
g
r
A
r
g
 
P
r
o
d
.
s
n
d
 
h
p
o
s
t
⟩
,
 
b
y
 
r
w
 
[
h
t
]
;
 
e
x
a
c
t
 
h
P
9
,
 
h
D
9
⟩
,
 
h
S
_
3
1
.
F
 
h
t
⟩
)
 
h
S
_
3
1
.
2
.
2
 
d
L
_
a
p
p
l
y
_
1
8


 
 
 
 
·
 
h
a
v
e
 
c
_
3
5
 
:
 
t
_
2
9
.
1
 
=
 
5
 
:
=
 
b
y
 
h
a
v
e
 
q
9
 
:
=
 
L
c
_
X
1
0
_
a
p
p
l
y
_
e
 
_
 
_
 
_
 
_
 
_
 
_
 
_
;
 
r
w
 
[
←
 
h
t
_
2
9
]
 
a
t
 
q
9
;
 
o
m
e
g
a


 
 
 
 
 
 
o
b
t
a
i
n
 
r
f
l
 
:
 
n
m
_
3
0
 
=
 
"
j
a
v
a
/
l
a
n
g
/
U
n
s
u
p
p
o
r
t
e
d
O
p
e
r
a
t
i
o
n
E
x
c
e
p
t
i
o
n
"
 
:
=
 
p
x
_
3
0
.
1
.
t
r
a
n
s
 
(
b
y
 
r
w
 
[
←
 
h
t
_
2
9
,
 
c
_
3
5
]
;
 
r
f
l
)


 
 
 
 
 
 
r
e
f
i
n
e
 
v
x
_
c
a
t
c
h
 
h
o
w
n
 
[
⟨
0
,
 
1
2
,
 
1
5
,
 
2
6
⟩
]
 
⟨
0
,
 
1
2
,
 
1
9
,
 
1
3
⟩
 
[
]
 
(
b
y
 
r
w
 
[
h
t
a
b
]
;
 
r
f
l
)
 
(
L
i
s
t
.
f
o
r
a
l
l
_
m
e
m
_
c
o
n
s
.
m
p
r
 
⟨
O
r
.
i
n
r
 
⟨
(
b
y
 
d
e
c
i
d
e
)
,
 
"
j
a
v
a
/
l
a
n
g
/
I
l
l
e
g
a
l
S
t
a
t
e
E
x
c
e
p
t
i
o
n
"
,
 
w
_
0
,
 
h
X
.
1
.
2
.
2
.
2
⟩
,
 
f
u
n
 
_
 
h
9
 
=
>
 
a
b
s
u
r
d
 
h
9
 
L
i
s
t
.
n
o
t
_
m
e
m
_
n
i
l
⟩
)
 
(
b
y
 
d
e
c
i
d
e
)
 
(
b
y
 
d
e
c
i
d
e
)
 
w
_
1
 
(
v
a
_
N
w
.
u
s
e
 
r
f
l
 
(
h
X
.
2
.
1
 
(
.
c
a
s
t
a
b
l
e
 
"
j
a
v
a
/
l
a
n
g
/
U
n
s
u
p
p
o
r
t
e
d
O
p
e
r
a
t
i
o
n
E
x
c
e
p
t
i
o
n
"
 
"
j
a
v
a
/
l
a
n
g
/
U
n
s
u
p
p
o
r
t
e
d
O
p
e
r
a
t
i
o
n
E
x
c
e
p
t
i
o
n
"
)
 
(
b
y
 
d
e
c
i
d
e
 
+
k
e
r
n
e
l
)
)
)
 
h
c
e
_
3
0
 
h
c
v
_
3
0
 
h
c
l
_
3
0
 
?
_


 
 
 
 
 
 
r
e
f
i
n
e
 
l
v
_
a
s
t
o
r
e
 
(
l
v
'
 
:
=
 
[
(
5
,
 
.
r
e
f
 
q
_
3
0
)
,
 
(
0
,
 
.
r
e
f
 
h
)
,
 
(
1
,
 
.
i
n
t
 
n
u
m
b
e
r
)
,
 
(
2
,
 
.
i
n
t
 
b
a
c
k
)
,
 
(
3
,
 
.
i
n
t
 
v
b
)
,
 
(
4
,
 
.
r
e
f
 
a
o
u
t
)
]
)
 
h
x
 
h
b
 
d
L
_
a
p
p
l
y
_
1
9
 
h
l
 
(
b
y
 
d
e
c
i
d
e
)
 
r
f
l
 
(
f
u
n
 
l
s
_
3
6
 
h
l
_
3
6
 
=
>
 
?
_
)


 
 
 
 
 
 
c
l
e
a
r
 
h
l


 
 
 
 
 
 
r
e
f
i
n
e
 
l
v
_
i
c
o
n
s
t
 
(
v
 
:
=
 
2
)
 
h
x
 
h
b
 
d
L
_
a
p
p
l
y
_
2
1
 
(
b
y
 
d
e
c
i
d
e
)
 
?
_


 
 
 
 
 
 
r
e
f
i
n
e
 
v
x
_
r
e
t
 
?
_


 
 
 
 
 
 
h
a
v
e
 
h
p
o
s
t
 
:
 
(
(
2
,
 
(
c
f
o
r
,
 
c
b
a
c
k
,
 
X
c
o
l
,
 
g
g
)
)
 
:
 
I
n
t
3
2
 
×
 
(
I
n
t
3
2
 
×
 
I
n
t
3
2
 
×
 
g
R
o
w
 
×
 
(
N
a
t
 
→
 
I
n
t
6
4
)
)
)
 
=
 
F
_
L
_
a
p
p
l
y
_
e
 
c
f
o
r
 
c
b
a
c
k
 
X
s
e
c
r
e
t
 
X
c
o
l
 
g
g
 
n
u
m
b
e
r
 
b
a
c
k
 
v
b
 
:
=
 
(
s
h
o
w
 
F
_
L
_
a
p
p
l
y
_
e
 
c
f
o
r
 
c
b
a
c
k
 
X
s
e
c
r
e
t
 
X
c
o
l
 
g
g
 
n
u
m
b
e
r
 
b
a
c
k
 
v
b
 
=
 
(
(
2
,
 
(
c
f
o
r
,
 
c
b
a
c
k
,
 
X
c
o
l
,
 
g
g
)
)
 
:
 
I
n
t
3
2
 
×
 
(
I
n
t
3
2
 
×
 
I
n
t
3
2
 
×
 
g
R
o
w
 
×
 
(
N
a
t
 
→
 
I
n
t
6
4
)
)
)
 
f
r
o
m
 
(
g
L
e
t
_
e
q
 
h
t
_
2
9
 
(
(
i
f
_
n
e
g
 
c
_
3
2
)
.
t
r
a
n
s
 
(
(
i
f
_
n
e
g
 
c
_
3
3
)
.
t
r
a
n
s
 
r
f
l
)
)
)
)
.
s
y
m
m


 
 
 
 
 
 
h
a
v
e
 
h
P
9
 
:
=
 
h
P
_
3
1
.
s
u
b
 
(
w
s
'
 
:
=
 
[
(
h
,
 
.
i
n
r
 
(
1
1
,
 
[
.
r
e
f
 
h
l
k
,
 
.
r
e
f
 
h
v
,
 
.
r
e
f
 
h
t
,
 
.
r
e
f
 
h
c
o
l
,
 
.
r
e
f
 
h
a
n
s
,
 
.
i
n
t
 
c
f
o
r
,
 
.
i
n
t
 
c
b
a
c
k
,
 
.
i
n
t
 
f
i
l
t
]
)
)
,
 
(
h
v
,
 
.
i
n
r
 
(
1
0
,
 
[
.
i
n
t
 
(
n
I
 
r
v
)
,
 
.
r
e
f
 
h
u
s
e
r
,
 
.
r
e
f
 
h
o
w
n
e
r
,
 
.
r
e
f
 
h
t
r
i
e
d
,
 
.
r
e
f
 
h
i
d
e
n
t
,
 
.
r
e
f
 
h
t
a
p
e
,
 
.
i
n
t
 
g
i
v
e
n
,
 
.
r
e
f
 
h
s
e
c
r
e
t
,
 
.
r
e
f
 
q
e
n
t
,
 
.
r
e
f
 
h
n
o
e
,
 
.
i
n
t
 
p
e
r
m
,
 
.
i
n
t
 
p
l
a
i
n
]
)
)
,
 
(
h
s
e
c
r
e
t
,
 
.
i
n
r
 
(
6
,
 
[
.
r
e
f
 
a
s
e
c
r
e
t
,
 
.
i
n
t
 
X
s
e
c
r
e
t
.
1
]
)
)
,
 
(
h
c
o
l
,
 
.
i
n
r
 
(
6
,
 
[
.
r
e
f
 
a
c
o
l
,
 
.
i
n
t
 
X
c
o
l
.
1
]
)
)
,
 
(
a
c
o
l
,
 
.
i
n
l
 
(
E
.
2
.
1
,
 
4
0
0
,
 
.
i
n
l
 
X
c
o
l
.
2
)
)
,
 
(
a
o
u
t
,
 
.
i
n
l
 
(
c
L
,
 
1
,
 
.
i
n
r
 
(
.
i
n
l
 
g
g
)
)
)
]
)
 
[
1
,
 
2
,
 
3
,
 
4
,
 
5
,
 
0
]
 
r
f
l


 
 
 
 
 
 
h
a
v
e
 
h
D
9
 
:
=
 
h
D
_
3
1
.
s
u
b
 
(
w
s
'
 
:
=
 
[
(
h
,
 
.
i
n
r
 
(
1
1
,
 
[
.
r
e
f
 
h
l
k
,
 
.
r
e
f
 
h
v
,
 
.
r
e
f
 
h
t
,
 
.
r
e
f
 
h
c
o
l
,
 
.
r
e
f
 
h
a
n
s
,
 
.
i
n
t
 
c
f
o
r
,
 
.
i
n
t
 
c
b
a
c
k
,
 
.
i
n
t
 
f
i
l
t
]
)
)
,
 
(
h
v
,
 
.
i
n
r
 
(
1
0
,
 
[
.
i
n
t
 
(
n
I
 
r
v
)
,
 
.
r
e
f
 
h
u
s
e
r
,
 
.
r
e
f
 
h
o
w
n
e
r
,
 
.
r
e
f
 
h
t
r
i
e
d
,
 
.
r
e
f
 
h
i
d
e
n
t
,
 
.
r
e
f
 
h
t
a
p
e
,
 
.
i
n
t
 
g
i
v
e
n
,
 
.
r
e
f
 
h
s
e
c
r
e
t
,
 
.
r
e
f
 
q
e
n
t
,
 
.
r
e
f
 
h
n
o
e
,
 
.
i
n
t
 
p
e
r
m
,
 
.
i
n
t
 
p
l
a
i
n
]
)
)
,
 
(
h
s
e
c
r
e
t
,
 
.
i
n
r
 
(
6
,
 
[
.
r
e
f
 
a
s
e
c
r
e
t
,
 
.
i
n
t
 
X
s
e
c
r
e
t
.
1
]
)
)
,
 
(
h
c
o
l
,
 
.
i
n
r
 
(
6
,
 
[
.
r
e
f
 
a
c
o
l
,
 
.
i
n
t
 
X
c
o
l
.
1
]
)
)
,
 
(
a
c
o
l
,
 
.
i
n
l
 
(
E
.
2
.
1
,
 
4
0
0
,
 
.
i
n
l
 
X
c
o
l
.
2
)
)
,
 
(
a
o
u
t
,
 
.
i
n
l
 
(
c
L
,
 
1
,
 
.
i
n
r
 
(
.
i
n
l
 
g
g
)
)
)
]
)
 
[
1
,
 
2
,
 
3
,
 
4
,
 
5
,
 
0
]
 
(
b
y
 
d
e
c
i
d
e
)
 
r
f
l


 
 
 
 
 
 
e
x
a
c
t
 
W
.
i
r
e
t
 
(
v
 
:
=
 
2
)
 
h
x
 
h
b
 
h
r
 
(
f
u
n
 
t
 
h
t
 
h
W
 
=
>
 
⟨
⟨
2
,
 
(
c
f
o
r
,
 
c
b
a
c
k
,
 
X
c
o
l
,
 
g
g
)
,
 
r
f
l
,
 
⟨
c
o
n
g
r
A
r
g
 
P
r
o
d
.
f
s
t
 
h
p
o
s
t
,
 
c
o
n
g
r
A
r
g
 
P
r
o
d
.
s
n
d
 
h
p
o
s
t
⟩
,
 
b
y
 
r
w
 
[
h
t
]
;
 
e
x
a
c
t
 
h
P
9
,
 
h
D
9
⟩
,
 
h
S
_
3
1
.
F
 
h
t
⟩
)
 
h
S
_
3
1
.
2
.
2
 
d
L
_
a
p
p
l
y
_
2
2


 
 
·
 
h
a
v
e
 
e
_
3
8
 
:
 
t
_
2
9
 
=
 
(
(
0
,
 
(
r
_
2
7
,
 
u
_
2
7
)
)
 
:
 
N
a
t
 
×
 
(
I
n
t
3
2
 
×
 
(
I
n
t
3
2
 
×
 
I
n
t
3
2
 
×
 
g
R
o
w
)
)
)
 
:
=
 
h
t
_
2
9
.
t
r
a
n
s
 
h
u
_
2
7
.
s
y
m
m


 
 
 
 
h
a
v
e
 
c
_
3
7
 
:
 
t
_
2
9
.
1
 
=
 
0
 
:
=
 
b
y
 
r
w
 
[
e
_
3
8
]


 
 
 
 
o
b
t
a
i
n
 
r
f
l
 
:
 
r
_
2
7
 
=
 
t
_
2
9
.
2
.
1
 
:
=
 
(
c
o
n
g
r
A
r
g
 
(
f
u
n
 
z
 
:
 
N
a
t
 
×
 
(
I
n
t
3
2
 
×
 
(
I
n
t
3
2
 
×
 
I
n
t
3
2
 
×
 
g
R
o
w
)
)
 
=
>
 
z
.
2
.
1
)
 
e
_
3
8
)
.
s
y
m
m


 
 
 
 
o
b
t
a
i
n
 
r
f
l
 
:
 
u
_
2
7
 
=
 
t
_
2
9
.
2
.
2
 
:
=
 
(
c
o
n
g
r
A
r
g
 
(
f
u
n
 
z
 
:
 
N
a
t
 
×
 
(
I
n
t
3
2
 
×
 
(
I
n
t
3
2
 
×
 
I
n
t
3
2
 
×
 
g
R
o
w
)
)
 
=
>
 
z
.
2
.
2
)
 
e
_
3
8
)
.
s
y
m
m


 
 
 
 
r
e
p
l
a
c
e
 
h
P
_
2
8
 
:
 
v
a
_
P
 
E
.
1
 
v
w
C
l
 
[
(
a
o
u
t
,
 
.
i
n
l
 
(
c
L
,
 
1
,
 
.
i
n
r
 
(
.
i
n
l
 
g
g
)
)
)
,
 
(
h
,
 
.
i
n
r
 
(
1
1
,
 
[
.
r
e
f
 
h
l
k
,
 
.
r
e
f
 
h
v
,
 
.
r
e
f
 
h
t
,
 
.
r
e
f
 
h
c
o
l
,
 
.
r
e
f
 
h
a
n
s
,
 
.
i
n
t
 
t
_
2
9
.
2
.
2
.
1
,
 
.
i
n
t
 
t
_
2
9
.
2
.
2
.
2
.
1
,
 
.
i
n
t
 
f
i
l
t
]
)
)
,
 
(
h
v
,
 
.
i
n
r
 
(
1
0
,
 
[
.
i
n
t
 
(
n
I
 
r
v
)
,
 
.
r
e
f
 
h
u
s
e
r
,
 
.
r
e
f
 
h
o
w
n
e
r
,
 
.
r
e
f
 
h
t
r
i
e
d
,
 
.
r
e
f
 
h
i
d
e
n
t
,
 
.
r
e
f
 
h
t
a
p
e
,
 
.
i
n
t
 
g
i
v
e
n
,
 
.
r
e
f
 
h
s
e
c
r
e
t
,
 
.
r
e
f
 
q
e
n
t
,
 
.
r
e
f
 
h
n
o
e
,
 
.
i
n
t
 
p
e
r
m
,
 
.
i
n
t
 
p
l
a
i
n
]
)
)
,
 
(
h
s
e
c
r
e
t
,
 
.
i
n
r
 
(
6
,
 
[
.
r
e
f
 
a
s
e
c
r
e
t
,
 
.
i
n
t
 
X
s
e
c
r
e
t
.
1
]
)
)
,
 
(
h
c
o
l
,
 
.
i
n
r
 
(
6
,
 
[
.
r
e
f
 
a
c
o
l
,
 
.
i
n
t
 
t
_
2
9
.
2
.
2
.
2
.
2
.
1
]
)
)
,
 
(
a
c
o
l
,
 
.
i
n
l
 
(
E
.
2
.
1
,
 
4
0
0
,
 
.
i
n
l
 
t
_
2
9
.
2
.
2
.
2
.
2
.
2
)
)
]
 
H
_
2
8
 
:
=
 
h
P
_
2
8


 
 
 
 
r
e
p
l
a
c
e
 
h
D
_
2
8
 
:
 
v
a
_
D
 
A
 
[
(
a
o
u
t
,
 
.
i
n
l
 
(
c
L
,
 
1
,
 
.
i
n
r
 
(
.
i
n
l
 
g
g
)
)
)
,
 
(
h
,
 
.
i
n
r
 
(
1
1
,
 
[
.
r
e
f
 
h
l
k
,
 
.
r
e
f
 
h
v
,
 
.
r
e
f
 
h
t
,
 
.
r
e
f
 
h
c
o
l
,
 
.
r
e
f
 
h
a
n
s
,
 
.
i
n
t
 
t
_
2
9
.
2
.
2
.
1
,
 
.
i
n
t
 
t
_
2
9
.
2
.
2
.
2
.
1
,
 
.
i
n
t
 
f
i
l
t
]
)
)
,
 
(
h
v
,
 
.
i
n
r
 
(
1
0
,
 
[
.
i
n
t
 
(
n
I
 
r
v
)
,
 
.
r
e
f
 
h
u
s
e
r
,
 
.
r
e
f
 
h
o
w
n
e
r
,
 
.
r
e
f
 
h
t
r
i
e
d
,
 
.
r
e
f
 
h
i
d
e
n
t
,
 
.
r
e
f
 
h
t
a
p
e
,
 
.
i
n
t
 
g
i
v
e
n
,
 
.
r
e
f
 
h
s
e
c
r
e
t
,
 
.
r
e
f
 
q
e
n
t
,
 
.
r
e
f
 
h
n
o
e
,
 
.
i
n
t
 
p
e
r
m
,
 
.
i
n
t
 
p
l
a
i
n
]
)
)
,
 
(
h
s
e
c
r
e
t
,
 
.
i
n
r
 
(
6
,
 
[
.
r
e
f
 
a
s
e
c
r
e
t
,
 
.
i
n
t
 
X
s
e
c
r
e
t
.
1
]
)
)
,
 
(
h
c
o
l
,
 
.
i
n
r
 
(
6
,
 
[
.
r
e
f
 
a
c
o
l
,
 
.
i
n
t
 
t
_
2
9
.
2
.
2
.
2
.
2
.
1
]
)
)
,
 
(
a
c
o
l
,
 
.
i
n
l
 
(
E
.
2
.
1
,
 
4
0
0
,
 
.
i
n
l
 
t
_
2
9
.
2
.
2
.
2
.
2
.
2
)
)
]
 
:
=
 
h
D
_
2
8


 
 
 
 
c
l
e
a
r
 
h
P
 
h
D
 
h
S


 
 
 
 
r
e
f
i
n
e
 
l
v
_
i
2
l
 
(
v
 
:
=
 
t
_
2
9
.
2
.
1
.
t
o
I
n
t
6
4
)
 
h
x
 
h
b
 
d
L
_
a
p
p
l
y
_
1
0
 
r
f
l
 
?
_


 
 
 
 
r
e
f
i
n
e
 
v
a
_
l
a
s
t
 
h
x
 
h
b
 
h
L
 
h
P
_
2
8
 
h
D
_
2
8
 
h
S
_
2
8
 
0
 
2
 
r
f
l
 
r
f
l
 
(
b
y
 
d
e
c
i
d
e
)
 
d
L
_
a
p
p
l
y
_
1
1
 
(
f
u
n
 
H
_
3
9
 
l
o
c
s
_
3
9
 
h
P
_
3
9
 
h
D
_
3
9
 
h
S
_
3
9
 
=
>
 
?
_
)


 
 
 
 
r
e
p
l
a
c
e
 
h
P
_
3
9
 
:
 
v
a
_
P
 
E
.
1
 
v
w
C
l
 
[
(
a
o
u
t
,
 
.
i
n
l
 
(
c
L
,
 
1
,
 
.
i
n
r
 
(
.
i
n
l
 
(
v
p
_
u
p
d
L
 
g
g
 
(
0
 
:
 
I
n
t
3
2
)
.
t
o
N
a
t
C
l
a
m
p
N
e
g
 
(
t
_
2
9
.
2
.
1
.
t
o
I
n
t
6
4
)
)
)
)
)
,
 
(
h
,
 
.
i
n
r
 
(
1
1
,
 
[
.
r
e
f
 
h
l
k
,
 
.
r
e
f
 
h
v
,
 
.
r
e
f
 
h
t
,
 
.
r
e
f
 
h
c
o
l
,
 
.
r
e
f
 
h
a
n
s
,
 
.
i
n
t
 
t
_
2
9
.
2
.
2
.
1
,
 
.
i
n
t
 
t
_
2
9
.
2
.
2
.
2
.
1
,
 
.
i
n
t
 
f
i
l
t
]
)
)
,
 
(
h
v
,
 
.
i
n
r
 
(
1
0
,
 
[
.
i
n
t
 
(
n
I
 
r
v
)
,
 
.
r
e
f
 
h
u
s
e
r
,
 
.
r
e
f
 
h
o
w
n
e
r
,
 
.
r
e
f
 
h
t
r
i
e
d
,
 
.
r
e
f
 
h
i
d
e
n
t
,
 
.
r
e
f
 
h
t
a
p
e
,
 
.
i
n
t
 
g
i
v
e
n
,
 
.
r
e
f
 
h
s
e
c
r
e
t
,
 
.
r
e
f
 
q
e
n
t
,
 
.
r
e
f
 
h
n
o
e
,
 
.
i
n
t
 
p
e
r
m
,
 
.
i
n
t
 
p
l
a
i
n
]
)
)
,
 
(
h
s
e
c
r
e
t
,
 
.
i
n
r
 
(
6
,
 
[
.
r
e
f
 
a
s
e
c
r
e
t
,
 
.
i
n
t
 
X
s
e
c
r
e
t
.
1
]
)
)
,
 
(
h
c
o
l
,
 
.
i
n
r
 
(
6
,
 
[
.
r
e
f
 
a
c
o
l
,
 
.
i
n
t
 
t
_
2
9
.
2
.
2
.
2
.
2
.
1
]
)
)
,
 
(
a
c
o
l
,
 
.
i
n
l
 
(
E
.
2
.
1
,
 
4
0
0
,
 
.
i
n
l
 
t
_
2
9
.
2
.
2
.
2
.
2
.
2
)
)
]
 
H
_
3
9
 
:
=
 
h
P
_
3
9


 
 
 
 
r
e
p
l
a
c
e
 
h
D
_
3
9
 
:
 
v
a
_
D
 
A
 
[
(
a
o
u
t
,
 
.
i
n
l
 
(
c
L
,
 
1
,
 
.
i
n
r
 
(
.
i
n
l
 
(
v
p
_
u
p
d
L
 
g
g
 
(
0
 
:
 
I
n
t
3
2
)
.
t
o
N
a
t
C
l
a
m
p
N
e
g
 
(
t
_
2
9
.
2
.
1
.
t
o
I
n
t
6
4
)
)
)
)
)
,
 
(
h
,
 
.
i
n
r
 
(
1
1
,
 
[
.
r
e
f
 
h
l
k
,
 
.
r
e
f
 
h
v
,
 
.
r
e
f
 
h
t
,
 
.
r
e
f
 
h
c
o
l
,
 
.
r
e
f
 
h
a
n
s
,
 
.
i
n
t
 
t
_
2
9
.
2
.
2
.
1
,
 
.
i
n
t
 
t
_
2
9
.
2
.
2
.
2
.
1
,
 
.
i
n
t
 
f
i
l
t
]
)
)
,
 
(
h
v
,
 
.
i
n
r
 
(
1
0
,
 
[
.
i
n
t
 
(
n
I
 
r
v
)
,
 
.
r
e
f
 
h
u
s
e
r
,
 
.
r
e
f
 
h
o
w
n
e
r
,
 
.
r
e
f
 
h
t
r
i
e
d
,
 
.
r
e
f
 
h
i
d
e
n
t
,
 
.
r
e
f
 
h
t
a
p
e
,
 
.
i
n
t
 
g
i
v
e
n
,
 
.
r
e
f
 
h
s
e
c
r
e
t
,
 
.
r
e
f
 
q
e
n
t
,
 
.
r
e
f
 
h
n
o
e
,
 
.
i
n
t
 
p
e
r
m
,
 
.
i
n
t
 
p
l
a
i
n
]
)
)
,
 
(
h
s
e
c
r
e
t
,
 
.
i
n
r
 
(
6
,
 
[
.
r
e
f
 
a
s
e
c
r
e
t
,
 
.
i
n
t
 
X
s
e
c
r
e
t
.
1
]
)
)
,
 
(
h
c
o
l
,
 
.
i
n
r
 
(
6
,
 
[
.
r
e
f
 
a
c
o
l
,
 
.
i
n
t
 
t
_
2
9
.
2
.
2
.
2
.
2
.
1
]
)
)
,
 
(
a
c
o
l
,
 
.
i
n
l
 
(
E
.
2
.
1
,
 
4
0
0
,
 
.
i
n
l
 
t
_
2
9
.
2
.
2
.
2
.
2
.
2
)
)
]
 
:
=
 
h
D
_
3
9


 
 
 
 
c
l
e
a
r
 
h
P
_
2
8
 
h
D
_
2
8
 
h
S
_
2
8


 
 
 
 
r
e
f
i
n
e
 
l
v
_
g
o
t
o
 
(
t
g
t
 
:
=
 
2
3
)
 
h
x
 
h
b
 
d
L
_
a
p
p
l
y
_
1
2
 
(
b
y
 
d
e
c
i
d
e
)
 
?
_


 
 
 
 
r
e
f
i
n
e
 
l
v
_
i
c
o
n
s
t
 
(
v
 
:
=
 
0
)
 
h
x
 
h
b
 
d
L
_
a
p
p
l
y
_
2
3
 
(
b
y
 
d
e
c
i
d
e
)
 
?
_


 
 
 
 
r
e
f
i
n
e
 
v
x
_
r
e
t
 
?
_


 
 
 
 
h
a
v
e
 
h
p
o
s
t
 
:
 
(
(
0
,
 
(
t
_
2
9
.
2
.
2
.
1
,
 
t
_
2
9
.
2
.
2
.
2
.
1
,
 
t
_
2
9
.
2
.
2
.
2
.
2
,
 
(
v
p
_
u
p
d
L
 
g
g
 
(
0
 
:
 
I
n
t
3
2
)
.
t
o
N
a
t
C
l
a
m
p
N
e
g
 
(
t
_
2
9
.
2
.
1
.
t
o
I
n
t
6
4
)
)
)
)
 
:
 
I
n
t
3
2
 
×
 
(
I
n
t
3
2
 
×
 
I
n
t
3
2
 
×
 
g
R
o
w
 
×
 
(
N
a
t
 
→
 
I
n
t
6
4
)
)
)
 
=
 
F
_
L
_
a
p
p
l
y
_
e
 
c
f
o
r
 
c
b
a
c
k
 
X
s
e
c
r
e
t
 
X
c
o
l
 
g
g
 
n
u
m
b
e
r
 
b
a
c
k
 
v
b
 
:
=
 
(
s
h
o
w
 
F
_
L
_
a
p
p
l
y
_
e
 
c
f
o
r
 
c
b
a
c
k
 
X
s
e
c
r
e
t
 
X
c
o
l
 
g
g
 
n
u
m
b
e
r
 
b
a
c
k
 
v
b
 
=
 
(
(
0
,
 
(
t
_
2
9
.
2
.
2
.
1
,
 
t
_
2
9
.
2
.
2
.
2
.
1
,
 
t
_
2
9
.
2
.
2
.
2
.
2
,
 
(
v
p
_
u
p
d
L
 
g
g
 
(
0
 
:
 
I
n
t
3
2
)
.
t
o
N
a
t
C
l
a
m
p
N
e
g
 
(
t
_
2
9
.
2
.
1
.
t
o
I
n
t
6
4
)
)
)
)
 
:
 
I
n
t
3
2
 
×
 
(
I
n
t
3
2
 
×
 
I
n
t
3
2
 
×
 
g
R
o
w
 
×
 
(
N
a
t
 
→
 
I
n
t
6
4
)
)
)
 
f
r
o
m
 
(
g
L
e
t
_
e
q
 
h
t
_
2
9
 
(
(
i
f
_
p
o
s
 
c
_
3
7
)
.
t
r
a
n
s
 
r
f
l
)
)
)
.
s
y
m
m


 
 
 
 
h
a
v
e
 
h
P
9
 
:
=
 
h
P
_
3
9
.
s
u
b
 
(
w
s
'
 
:
=
 
[
(
h
,
 
.
i
n
r
 
(
1
1
,
 
[
.
r
e
f
 
h
l
k
,
 
.
r
e
f
 
h
v
,
 
.
r
e
f
 
h
t
,
 
.
r
e
f
 
h
c
o
l
,
 
.
r
e
f
 
h
a
n
s
,
 
.
i
n
t
 
t
_
2
9
.
2
.
2
.
1
,
 
.
i
n
t
 
t
_
2
9
.
2
.
2
.
2
.
1
,
 
.
i
n
t
 
f
i
l
t
]
)
)
,
 
(
h
v
,
 
.
i
n
r
 
(
1
0
,
 
[
.
i
n
t
 
(
n
I
 
r
v
)
,
 
.
r
e
f
 
h
u
s
e
r
,
 
.
r
e
f
 
h
o
w
n
e
r
,
 
.
r
e
f
 
h
t
r
i
e
d
,
 
.
r
e
f
 
h
i
d
e
n
t
,
 
.
r
e
f
 
h
t
a
p
e
,
 
.
i
n
t
 
g
i
v
e
n
,
 
.
r
e
f
 
h
s
e
c
r
e
t
,
 
.
r
e
f
 
q
e
n
t
,
 
.
r
e
f
 
h
n
o
e
,
 
.
i
n
t
 
p
e
r
m
,
 
.
i
n
t
 
p
l
a
i
n
]
)
)
,
 
(
h
s
e
c
r
e
t
,
 
.
i
n
r
 
(
6
,
 
[
.
r
e
f
 
a
s
e
c
r
e
t
,
 
.
i
n
t
 
X
s
e
c
r
e
t
.
1
]
)
)
,
 
(
h
c
o
l
,
 
.
i
n
r
 
(
6
,
 
[
.
r
e
f
 
a
c
o
l
,
 
.
i
n
t
 
t
_
2
9
.
2
.
2
.
2
.
2
.
1
]
)
)
,
 
(
a
c
o
l
,
 
.
i
n
l
 
(
E
.
2
.
1
,
 
4
0
0
,
 
.
i
n
l
 
t
_
2
9
.
2
.
2
.
2
.
2
.
2
)
)
,
 
(
a
o
u
t
,
 
.
i
n
l
 
(
c
L
,
 
1
,
 
.
i
n
r
 
(
.
i
n
l
 
(
v
p
_
u
p
d
L
 
g
g
 
(
0
 
:
 
I
n
t
3
2
)
.
t
o
N
a
t
C
l
a
m
p
N
e
g
 
(
t
_
2
9
.
2
.
1
.
t
o
I
n
t
6
4
)
)
)
)
)
]
)
 
[
1
,
 
2
,
 
3
,
 
4
,
 
5
,
 
0
]
 
r
f
l


 
 
 
 
h
a
v
e
 
h
D
9
 
:
=
 
h
D
_
3
9
.
s
u
b
 
(
w
s
'
 
:
=
 
[
(
h
,
 
.
i
n
r
 
(
1
1
,
 
[
.
r
e
f
 
h
l
k
,
 
.
r
e
f
 
h
v
,
 
.
r
e
f
 
h
t
,
 
.
r
e
f
 
h
c
o
l
,
 
.
r
e
f
 
h
a
n
s
,
 
.
i
n
t
 
t
_
2
9
.
2
.
2
.
1
,
 
.
i
n
t
 
t
_
2
9
.
2
.
2
.
2
.
1
,
 
.
i
n
t
 
f
i
l
t
]
)
)
,
 
(
h
v
,
 
.
i
n
r
 
(
1
0
,
 
[
.
i
n
t
 
(
n
I
 
r
v
)
,
 
.
r
e
f
 
h
u
s
e
r
,
 
.
r
e
f
 
h
o
w
n
e
r
,
 
.
r
e
f
 
h
t
r
i
e
d
,
 
.
r
e
f
 
h
i
d
e
n
t
,
 
.
r
e
f
 
h
t
a
p
e
,
 
.
i
n
t
 
g
i
v
e
n
,
 
.
r
e
f
 
h
s
e
c
r
e
t
,
 
.
r
e
f
 
q
e
n
t
,
 
.
r
e
f
 
h
n
o
e
,
 
.
i
n
t
 
p
e
r
m
,
 
.
i
n
t
 
p
l
a
i
n
]
)
)
,
 
(
h
s
e
c
r
e
t
,
 
.
i
n
r
 
(
6
,
 
[
.
r
e
f
 
a
s
e
c
r
e
t
,
 
.
i
n
t
 
X
s
e
c
r
e
t
.
1
]
)
)
,
 
(
h
c
o
l
,
 
.
i
n
r
 
(
6
,
 
[
.
r
e
f
 
a
c
o
l
,
 
.
i
n
t
 
t
_
2
9
.
2
.
2
.
2
.
2
.
1
]
)
)
,
 
(
a
c
o
l
,
 
.
i
n
l
 
(
E
.
2
.
1
,
 
4
0
0
,
 
.
i
n
l
 
t
_
2
9
.
2
.
2
.
2
.
2
.
2
)
)
,
 
(
a
o
u
t
,
 
.
i
n
l
 
(
c
L
,
 
1
,
 
.
i
n
r
 
(
.
i
n
l
 
(
v
p
_
u
p
d
L
 
g
g
 
(
0
 
:
 
I
n
t
3
2
)
.
t
o
N
a
t
C
l
a
m
p
N
e
g
 
(
t
_
2
9
.
2
.
1
.
t
o
I
n
t
6
4
)
)
)
)
)
]
)
 
[
1
,
 
2
,
 
3
,
 
4
,
 
5
,
 
0
]
 
(
b
y
 
d
e
c
i
d
e
)
 
r
f
l


 
 
 
 
e
x
a
c
t
 
W
.
i
r
e
t
 
(
v
 
:
=
 
0
)
 
h
x
 
h
b
 
h
r
 
(
f
u
n
 
t
 
h
t
 
h
W
 
=
>
 
⟨
⟨
0
,
 
(
t
_
2
9
.
2
.
2
.
1
,
 
t
_
2
9
.
2
.
2
.
2
.
1
,
 
t
_
2
9
.
2
.
2
.
2
.
2
,
 
(
v
p
_
u
p
d
L
 
g
g
 
(
0
 
:
 
I
n
t
3
2
)
.
t
o
N
a
t
C
l
a
m
p
N
e
g
 
(
t
_
2
9
.
2
.
1
.
t
o
I
n
t
6
4
)
)
)
,
 
r
f
l
,
 
⟨
c
o
n
g
r
A
r
g
 
P
r
o
d
.
f
s
t
 
h
p
o
s
t
,
 
c
o
n
g
r
A
r
g
 
P
r
o
d
.
s
n
d
 
h
p
o
s
t
⟩
,
 
b
y
 
r
w
 
[
h
t
]
;
 
e
x
a
c
t
 
h
P
9
,
 
h
D
9
⟩
,
 
h
S
_
3
9
.
F
 
h
t
⟩
)
 
h
S
_
3
9
.
2
.
2
 
d
L
_
a
p
p
l
y
_
2
4


s
e
t
_
o
p
t
i
o
n
 
m
a
x
H
e
a
r
t
b
e
a
t
s
 
4
0
0
0
0
0
0
 
i
n


s
e
t
_
o
p
t
i
o
n
 
m
a
x
R
e
c
D
e
p
t
h
 
1
0
0
0
0
0
 
i
n


t
h
e
o
r
e
m
 
k
_
L
_
o
u
t
_
e
 
(
E
 
:
 
g
E
)
 
(
s
a
 
:
 
N
a
t
 
→
 
N
a
t
)
 
(
c
L
 
:
 
C
l
a
s
s
I
d
)
 
(
l
 
:
 
L
a
u
n
c
h
)
 
(
h
s
t
 
:
 
l
.
s
t
a
c
k
T
r
a
c
e
s
 
=
 
f
a
l
s
e
)
 
(
h
 
a
o
u
t
 
h
l
k
 
h
v
 
h
t
 
h
c
o
l
 
h
a
n
s
 
a
a
n
s
 
:
 
N
a
t
)
 
(
c
f
o
r
 
:
 
I
n
t
3
2
)
 
(
c
b
a
c
k
 
:
 
I
n
t
3
2
)
 
(
f
i
l
t
 
:
 
I
n
t
3
2
)
 
(
X
a
n
s
 
:
 
g
R
o
w
)
 
(
g
g
 
:
 
N
a
t
 
→
 
I
n
t
6
4
)
 
(
v
i
 
:
 
I
n
t
3
2
)
 
:
 
g
H
i
 
E
 
s
a
 
c
L
 
l
 
y
L
_
o
u
t
 
w
s
L
_
o
u
t
 
(
{
 
f
r
a
m
e
s
 
:
=
 
8
,
 
c
e
l
l
s
 
:
=
 
1
,
 
s
l
o
t
s
 
:
=
 
6
,
 
l
o
c
a
l
s
 
:
=
 
1
1
6
 
}
)
 
1
 
6
 
[
.
r
e
f
 
h
,
 
.
i
n
t
 
v
i
,
 
.
r
e
f
 
a
o
u
t
]
 
[
(
h
,
 
.
i
n
r
 
(
1
1
,
 
[
.
r
e
f
 
h
l
k
,
 
.
r
e
f
 
h
v
,
 
.
r
e
f
 
h
t
,
 
.
r
e
f
 
h
c
o
l
,
 
.
r
e
f
 
h
a
n
s
,
 
.
i
n
t
 
c
f
o
r
,
 
.
i
n
t
 
c
b
a
c
k
,
 
.
i
n
t
 
f
i
l
t
]
)
)
,
 
(
h
a
n
s
,
 
.
i
n
r
 
(
6
,
 
[
.
r
e
f
 
a
a
n
s
,
 
.
i
n
t
 
X
a
n
s
.
1
]
)
)
,
 
(
a
a
n
s
,
 
.
i
n
l
 
(
E
.
2
.
1
,
 
4
3
2
,
 
.
i
n
l
 
X
a
n
s
.
2
)
)
,
 
(
a
o
u
t
,
 
.
i
n
l
 
(
c
L
,
 
1
,
 
.
i
n
r
 
(
.
i
n
l
 
g
g
)
)
)
]
 
(
f
u
n
 
(
r
r
 
:
 
I
n
t
3
2
)
 
(
u
u
 
:
 
N
a
t
 
→
 
I
n
t
6
4
)
 
=
>
 
r
r
 
=
 
(
F
_
L
_
o
u
t
_
e
 
X
a
n
s
 
g
g
 
v
i
)
.
1
 
∧
 
u
u
 
=
 
(
F
_
L
_
o
u
t
_
e
 
X
a
n
s
 
g
g
 
v
i
)
.
2
)
 
(
f
u
n
 
(
u
u
 
:
 
N
a
t
 
→
 
I
n
t
6
4
)
 
=
>
 
[
(
h
,
 
.
i
n
r
 
(
1
1
,
 
[
.
r
e
f
 
h
l
k
,
 
.
r
e
f
 
h
v
,
 
.
r
e
f
 
h
t
,
 
.
r
e
f
 
h
c
o
l
,
 
.
r
e
f
 
h
a
n
s
,
 
.
i
n
t
 
c
f
o
r
,
 
.
i
n
t
 
c
b
a
c
k
,
 
.
i
n
t
 
f
i
l
t
]
)
)
,
 
(
h
a
n
s
,
 
.
i
n
r
 
(
6
,
 
[
.
r
e
f
 
a
a
n
s
,
 
.
i
n
t
 
X
a
n
s
.
1
]
)
)
,
 
(
a
a
n
s
,
 
.
i
n
l
 
(
E
.
2
.
1
,
 
4
3
2
,
 
.
i
n
l
 
X
a
n
s
.
2
)
)
,
 
(
a
o
u
t
,
 
.
i
n
l
 
(
c
L
,
 
1
,
 
.
i
n
r
 
(
.
i
n
l
 
u
u
)
)
)
]
)
 
:
=
 
b
y


 
 
i
n
t
r
o
 
s
z


 
 
r
e
f
i
n
e
 
v
x
_
o
f
W
H
 
(
h
h
 
:
=
 
[
(
0
,
 
9
,
 
1
2
,
 
5
7
)
]
)
 
(
c
c
 
:
=
 
c
L
_
o
u
t
)
 
(
m
a
x
L
 
:
=
 
4
)
 
(
r
e
t
 
:
=
 
(
s
o
m
e
 
.
i
n
t
)
)
 
(
b
y
 
d
e
c
i
d
e
)
 
r
f
l
 
?
_


 
 
i
n
t
r
o
 
p
 
e
 
s
 
m
 
a
r
g
s
 
b
e
l
o
w
 
m
e
t
h
 
c
 
s
₁
 
B
 
h
m
l
 
h
v


 
 
o
b
t
a
i
n
 
⟨
r
f
l
,
 
h
s
z
,
 
h
P
,
 
⟨
h
V
,
 
h
X
,
 
h
L
⟩
,
 
h
D
0
⟩
 
:
=
 
h
v


 
 
h
a
v
e
 
h
x
 
:
=
 
B
.
e
x
e
c


 
 
h
a
v
e
 
h
b
 
:
=
 
B
.
b
y
t
e
s


 
 
h
a
v
e
 
h
r
 
:
=
 
B
.
r
e
t
u
r
n
s


 
 
h
a
v
e
 
h
t
s
 
:
=
 
a
t
o
m
s
_
s
p
e
c
 
(
w
s
 
:
=
 
w
s
L
_
o
u
t
)
 
B
.
p
r
e


 
 
h
a
v
e
 
h
o
w
n
 
:
 
s
.
v
m
.
f
i
n
d
C
l
a
s
s
 
R
L
 
=
 
s
o
m
e
 
m
.
c
l
s
 
:
=
 
f
i
n
d
C
l
a
s
s
_
o
f
_
m
e
t
h
o
d
N
a
m
e
d
 
B
.
n
a
m
e
d


 
 
h
a
v
e
 
h
l
o
c
k
s
 
:
=
 
B
.
n
o
t
S
y
n
c
h
r
o
n
i
z
e
d


 
 
h
a
v
e
 
h
t
a
b
 
:
=
 
v
x
_
t
a
b
l
e
 
B
 
(
h
t
s
 
(
.
c
o
d
e
W
i
t
h
 
y
L
_
o
u
t
 
c
L
_
o
u
t
 
4
 
(
s
o
m
e
 
.
i
n
t
)
 
[
(
0
,
 
9
,
 
1
2
,
 
5
7
)
]
)
 
(
b
y
 
d
e
c
i
d
e
 
+
k
e
r
n
e
l
)
)


 
 
s
u
b
s
t
 
h
s
z


 
 
h
a
v
e
 
h
D
 
:
=
 
h
D
0
.
s
e
l
f
 
(
s
z
 
:
=
 
s
.
h
e
a
p
.
s
i
z
e
)


 
 
c
l
e
a
r
 
h
D
0


 
 
g
e
n
e
r
a
l
i
z
e
 
h
A
e
 
:
 
v
a
_
A
 
[
(
h
,
 
.
i
n
r
 
(
1
1
,
 
[
.
r
e
f
 
h
l
k
,
 
.
r
e
f
 
h
v
,
 
.
r
e
f
 
h
t
,
 
.
r
e
f
 
h
c
o
l
,
 
.
r
e
f
 
h
a
n
s
,
 
.
i
n
t
 
c
f
o
r
,
 
.
i
n
t
 
c
b
a
c
k
,
 
.
i
n
t
 
f
i
l
t
]
)
)
,
 
(
h
a
n
s
,
 
.
i
n
r
 
(
6
,
 
[
.
r
e
f
 
a
a
n
s
,
 
.
i
n
t
 
X
a
n
s
.
1
]
)
)
,
 
(
a
a
n
s
,
 
.
i
n
l
 
(
E
.
2
.
1
,
 
4
3
2
,
 
.
i
n
l
 
X
a
n
s
.
2
)
)
,
 
(
a
o
u
t
,
 
.
i
n
l
 
(
c
L
,
 
1
,
 
.
i
n
r
 
(
.
i
n
l
 
g
g
)
)
)
]
 
s
.
h
e
a
p
.
s
i
z
e
 
=
 
A
 
a
t
 
h
D
 
h
V
 
h
X
 
⊢


 
 
h
a
v
e
 
h
A
 
:
 
∀
 
q
 
:
 
N
a
t
,
 
s
.
h
e
a
p
.
s
i
z
e
 
≤
 
q
 
→
 
A
 
q
 
:
=
 
f
u
n
 
q
 
h
 
=
>
 
b
y
 
r
w
 
[
←
 
h
A
e
]
;
 
e
x
a
c
t
 
O
r
.
i
n
r
 
h


 
 
h
a
v
e
 
h
S
 
:
 
v
a
_
S
 
A
 
s
.
h
e
a
p
 
s
.
h
e
a
p
 
[
]
 
:
=
 
v
a
_
S
.
r
f


 
 
h
a
v
e
 
h
K
 
:
=
 
h
V
.
1


 
 
h
a
v
e
 
h
F
 
:
 
C
a
l
l
F
i
x
 
p
 
m
 
c
 
c
L
_
o
u
t
 
4
 
s
 
_
 
w
s
L
_
o
u
t
 
R
L
 
:
=
 
⟨
h
x
,
 
h
b
,
 
h
m
l
,
 
h
o
w
n
,
 
h
t
s
⟩


 
 
h
a
v
e
 
h
l
 
:
=
 
l
v
_
e
n
t
r
y
 
[
.
r
e
f
 
h
,
 
.
i
n
t
 
v
i
,
 
.
r
e
f
 
a
o
u
t
]
 
(
n
 
:
=
 
4
)
 
(
N
a
t
.
l
e
_
o
f
_
b
l
e
_
e
q
_
t
r
u
e
 
r
f
l
)


 
 
r
w
 
[
l
g
_
e
n
t
r
y
_
e
q
]


 
 
g
e
n
e
r
a
l
i
z
e
 
(
l
g
_
s
l
 
[
.
r
e
f
 
h
,
 
.
i
n
t
 
v
i
,
 
.
r
e
f
 
a
o
u
t
]
 
+
+
 
L
i
s
t
.
r
e
p
l
i
c
a
t
e
 
(
4
 
-
 
(
l
g
_
s
l
 
[
.
r
e
f
 
h
,
 
.
i
n
t
 
v
i
,
 
.
r
e
f
 
a
o
u
t
]
)
.
l
e
n
g
t
h
)
 
S
l
o
t
.
u
n
s
e
t
)
.
t
o
A
r
r
a
y
 
=
 
l
s
 
a
t
 
h
l
 
⊢


 
 
h
a
v
e
 
h
l
 
:
 
l
v
_
h
a
s
 
l
s
 
4
 
[
(
0
,
 
.
r
e
f
 
h
)
,
 
(
1
,
 
.
i
n
t
 
v
i
)
,
 
(
2
,
 
.
r
e
f
 
a
o
u
t
)
]
 
:
=
 
h
l


 
 
h
a
v
e
 
w
_
0
 
:
=
 
h
t
s
 
(
.
c
l
a
s
s
L
i
n
k
 
R
L
 
5
7
 
"
j
a
v
a
/
l
a
n
g
/
A
r
r
a
y
I
n
d
e
x
O
u
t
O
f
B
o
u
n
d
s
E
x
c
e
p
t
i
o
n
"
)
 
(
b
y
 
d
e
c
i
d
e
 
+
k
e
r
n
e
l
)


 
 
r
e
f
i
n
e
 
l
v
_
a
l
o
a
d
_
n
 
h
x
 
h
b
 
d
L
_
o
u
t
_
0
 
r
f
l
 
(
l
v
_
a
t
 
h
l
 
2
 
r
f
l
)
 
?
_


 
 
r
e
f
i
n
e
 
l
v
_
i
c
o
n
s
t
 
(
v
 
:
=
 
0
)
 
h
x
 
h
b
 
d
L
_
o
u
t
_
1
 
(
b
y
 
d
e
c
i
d
e
)
 
?
_


 
 
r
e
f
i
n
e
 
l
v
_
a
l
o
a
d
_
n
 
h
x
 
h
b
 
d
L
_
o
u
t
_
2
 
r
f
l
 
(
l
v
_
a
t
 
h
l
 
0
 
r
f
l
)
 
?
_


 
 
r
e
f
i
n
e
 
l
v
_
i
l
o
a
d
_
n
 
h
x
 
h
b
 
d
L
_
o
u
t
_
3
 
r
f
l
 
(
l
v
_
a
t
 
h
l
 
1
 
r
f
l
)
 
?
_


 
 
o
b
t
a
i
n
 
⟨
t
_
2
5
,
 
h
t
_
2
5
⟩
 
:
 
∃
 
t
9
 
:
 
N
a
t
 
×
 
I
n
t
3
2
,
 
t
9
 
=
 
F
_
X
1
0
_
o
u
t
_
e
 
X
a
n
s
 
v
i
 
:
=
 
⟨
_
,
 
r
f
l
⟩


 
 
r
e
f
i
n
e
 
g
T
V
i
 
h
F
 
h
l
 
h
V
 
h
X
 
h
P
 
h
D
 
h
S
 
h
A
 
[
0
,
 
1
,
 
2
]
 
[
3
]
 
(
w
c
 
:
=
 
[
(
h
,
 
.
i
n
r
 
(
1
1
,
 
[
.
r
e
f
 
h
l
k
,
 
.
r
e
f
 
h
v
,
 
.
r
e
f
 
h
t
,
 
.
r
e
f
 
h
c
o
l
,
 
.
r
e
f
 
h
a
n
s
,
 
.
i
n
t
 
c
f
o
r
,
 
.
i
n
t
 
c
b
a
c
k
,
 
.
i
n
t
 
f
i
l
t
]
)
)
,
 
(
h
a
n
s
,
 
.
i
n
r
 
(
6
,
 
[
.
r
e
f
 
a
a
n
s
,
 
.
i
n
t
 
X
a
n
s
.
1
]
)
)
,
 
(
a
a
n
s
,
 
.
i
n
l
 
(
E
.
2
.
1
,
 
4
3
2
,
 
.
i
n
l
 
X
a
n
s
.
2
)
)
]
)
 
(
w
r
 
:
=
 
[
(
a
o
u
t
,
 
.
i
n
l
 
(
c
L
,
 
1
,
 
.
i
n
r
 
(
.
i
n
l
 
g
g
)
)
)
]
)
 
r
f
l
 
r
f
l
 
r
f
l
 
(
b
y
 
d
e
c
i
d
e
)
 
0
 
1
1
 
r
f
l
 
r
f
l
 
r
f
l
 
(
k
_
X
1
0
_
o
u
t
_
e
 
E
 
s
a
 
l
 
h
s
t
 
h
 
h
l
k
 
h
v
 
h
t
 
h
c
o
l
 
h
a
n
s
 
a
a
n
s
 
c
f
o
r
 
c
b
a
c
k
 
f
i
l
t
 
X
a
n
s
 
v
i
)
 
(
c
w
V
 
1
 
h
t
s
 
g
T
L
_
o
u
t
_
X
1
0
_
o
u
t
 
r
f
l
 
r
f
l
 
r
f
l
 
(
b
y
 
d
e
c
i
d
e
 
+
k
e
r
n
e
l
)
 
⟨
N
a
t
.
l
e
_
o
f
_
b
l
e
_
e
q
_
t
r
u
e
 
r
f
l
,
 
N
a
t
.
l
e
_
o
f
_
b
l
e
_
e
q
_
t
r
u
e
 
r
f
l
⟩
)
 
r
f
l
 
r
f
l
 
r
f
l
 
(
N
a
t
.
l
e
_
o
f
_
b
l
e
_
e
q
_
t
r
u
e
 
r
f
l
)
 
d
L
_
o
u
t
_
4
 
⟨
N
a
t
.
l
e
_
o
f
_
b
l
e
_
e
q
_
t
r
u
e
 
r
f
l
,
 
N
a
t
.
l
e
_
o
f
_
b
l
e
_
e
q
_
t
r
u
e
 
r
f
l
⟩
 
(
f
u
n
 
n
m
_
2
6
 
c
e
_
2
6
 
q
_
2
6
 
H
_
2
7
 
l
o
c
s
_
2
7
 
p
x
_
2
6
 
h
P
_
2
7
 
h
D
_
2
7
 
h
S
_
2
7
 
h
c
e
_
2
6
 
h
c
v
_
2
6
 
h
c
l
_
2
6
 
=
>
 
?
_
)
 
(
f
u
n
 
r
_
2
3
 
_
 
H
_
2
4
 
l
o
c
s
_
2
4
 
h
u
_
2
3
 
h
P
_
2
4
 
h
D
_
2
4
 
h
S
_
2
4
 
=
>
 
?
_
)


 
 
·
 
r
e
p
l
a
c
e
 
h
P
_
2
7
 
:
 
v
a
_
P
 
E
.
1
 
v
w
C
l
 
[
(
a
o
u
t
,
 
.
i
n
l
 
(
c
L
,
 
1
,
 
.
i
n
r
 
(
.
i
n
l
 
g
g
)
)
)
,
 
(
h
,
 
.
i
n
r
 
(
1
1
,
 
[
.
r
e
f
 
h
l
k
,
 
.
r
e
f
 
h
v
,
 
.
r
e
f
 
h
t
,
 
.
r
e
f
 
h
c
o
l
,
 
.
r
e
f
 
h
a
n
s
,
 
.
i
n
t
 
c
f
o
r
,
 
.
i
n
t
 
c
b
a
c
k
,
 
.
i
n
t
 
f
i
l
t
]
)
)
,
 
(
h
a
n
s
,
 
.
i
n
r
 
(
6
,
 
[
.
r
e
f
 
a
a
n
s
,
 
.
i
n
t
 
X
a
n
s
.
1
]
)
)
,
 
(
a
a
n
s
,
 
.
i
n
l
 
(
E
.
2
.
1
,
 
4
3
2
,
 
.
i
n
l
 
X
a
n
s
.
2
)
)
]
 
H
_
2
7
 
:
=
 
h
P
_
2
7


 
 
 
 
r
e
p
l
a
c
e
 
h
D
_
2
7
 
:
 
v
a
_
D
 
A
 
[
(
a
o
u
t
,
 
.
i
n
l
 
(
c
L
,
 
1
,
 
.
i
n
r
 
(
.
i
n
l
 
g
g
)
)
)
,
 
(
h
,
 
.
i
n
r
 
(
1
1
,
 
[
.
r
e
f
 
h
l
k
,
 
.
r
e
f
 
h
v
,
 
.
r
e
f
 
h
t
,
 
.
r
e
f
 
h
c
o
l
,
 
.
r
e
f
 
h
a
n
s
,
 
.
i
n
t
 
c
f
o
r
,
 
.
i
n
t
 
c
b
a
c
k
,
 
.
i
n
t
 
f
i
l
t
]
)
)
,
 
(
h
a
n
s
,
 
.
i
n
r
 
(
6
,
 
[
.
r
e
f
 
a
a
n
s
,
 
.
i
n
t
 
X
a
n
s
.
1
]
)
)
,
 
(
a
a
n
s
,
 
.
i
n
l
 
(
E
.
2
.
1
,
 
4
3
2
,
 
.
i
n
l
 
X
a
n
s
.
2
)
)
]
 
:
=
 
h
D
_
2
7


 
 
 
 
c
l
e
a
r
 
h
P
 
h
D
 
h
S


 
 
 
 
h
a
v
e
 
c
_
2
8
 
:
 
¬
 
t
_
2
5
.
1
 
=
 
0
 
:
=
 
b
y
 
r
w
 
[
h
t
_
2
5
]
;
 
e
x
a
c
t
 
p
x
_
2
6
.
2


 
 
 
 
h
a
v
e
 
c
_
2
9
 
:
 
t
_
2
5
.
1
 
=
 
1
 
:
=
 
b
y
 
h
a
v
e
 
q
9
 
:
=
 
L
c
_
X
1
0
_
o
u
t
_
e
 
_
 
_
;
 
r
w
 
[
←
 
h
t
_
2
5
]
 
a
t
 
q
9
;
 
o
m
e
g
a


 
 
 
 
o
b
t
a
i
n
 
r
f
l
 
:
 
n
m
_
2
6
 
=
 
"
j
a
v
a
/
l
a
n
g
/
A
r
r
a
y
I
n
d
e
x
O
u
t
O
f
B
o
u
n
d
s
E
x
c
e
p
t
i
o
n
"
 
:
=
 
p
x
_
2
6
.
1
.
t
r
a
n
s
 
(
b
y
 
r
w
 
[
←
 
h
t
_
2
5
,
 
c
_
2
9
]
;
 
r
f
l
)


 
 
 
 
r
e
f
i
n
e
 
v
x
_
c
a
t
c
h
 
h
o
w
n
 
[
]
 
⟨
0
,
 
9
,
 
1
2
,
 
5
7
⟩
 
[
]
 
(
b
y
 
r
w
 
[
h
t
a
b
]
;
 
r
f
l
)
 
(
f
u
n
 
z
 
h
9
 
=
>
 
a
b
s
u
r
d
 
h
9
 
L
i
s
t
.
n
o
t
_
m
e
m
_
n
i
l
)
 
(
b
y
 
d
e
c
i
d
e
)
 
(
b
y
 
d
e
c
i
d
e
)
 
w
_
0
 
(
v
a
_
N
w
.
u
s
e
 
r
f
l
 
(
h
X
.
2
.
1
 
(
.
c
a
s
t
a
b
l
e
 
"
j
a
v
a
/
l
a
n
g
/
A
r
r
a
y
I
n
d
e
x
O
u
t
O
f
B
o
u
n
d
s
E
x
c
e
p
t
i
o
n
"
 
"
j
a
v
a
/
l
a
n
g
/
A
r
r
a
y
I
n
d
e
x
O
u
t
O
f
B
o
u
n
d
s
E
x
c
e
p
t
i
o
n
"
)
 
(
b
y
 
d
e
c
i
d
e
 
+
k
e
r
n
e
l
)
)
)
 
h
c
e
_
2
6
 
h
c
v
_
2
6
 
h
c
l
_
2
6
 
?
_


 
 
 
 
r
e
f
i
n
e
 
l
v
_
a
s
t
o
r
e
_
n
 
(
l
v
'
 
:
=
 
[
(
3
,
 
.
r
e
f
 
q
_
2
6
)
,
 
(
0
,
 
.
r
e
f
 
h
)
,
 
(
1
,
 
.
i
n
t
 
v
i
)
,
 
(
2
,
 
.
r
e
f
 
a
o
u
t
)
]
)
 
h
x
 
h
b
 
d
L
_
o
u
t
_
1
2
 
r
f
l
 
h
l
 
(
b
y
 
d
e
c
i
d
e
)
 
r
f
l
 
(
f
u
n
 
l
s
_
3
0
 
h
l
_
3
0
 
=
>
 
?
_
)


 
 
 
 
c
l
e
a
r
 
h
l


 
 
 
 
r
e
f
i
n
e
 
l
v
_
i
c
o
n
s
t
 
(
v
 
:
=
 
1
)
 
h
x
 
h
b
 
d
L
_
o
u
t
_
1
3
 
(
b
y
 
d
e
c
i
d
e
)
 
?
_


 
 
 
 
r
e
f
i
n
e
 
v
x
_
r
e
t
 
?
_


 
 
 
 
h
a
v
e
 
h
p
o
s
t
 
:
 
(
(
1
,
 
g
g
)
 
:
 
I
n
t
3
2
 
×
 
(
N
a
t
 
→
 
I
n
t
6
4
)
)
 
=
 
F
_
L
_
o
u
t
_
e
 
X
a
n
s
 
g
g
 
v
i
 
:
=
 
(
s
h
o
w
 
F
_
L
_
o
u
t
_
e
 
X
a
n
s
 
g
g
 
v
i
 
=
 
(
(
1
,
 
g
g
)
 
:
 
I
n
t
3
2
 
×
 
(
N
a
t
 
→
 
I
n
t
6
4
)
)
 
f
r
o
m
 
(
g
L
e
t
_
e
q
 
h
t
_
2
5
 
(
(
i
f
_
n
e
g
 
c
_
2
8
)
.
t
r
a
n
s
 
r
f
l
)
)
)
.
s
y
m
m


 
 
 
 
h
a
v
e
 
h
P
9
 
:
=
 
h
P
_
2
7
.
s
u
b
 
(
w
s
'
 
:
=
 
[
(
h
,
 
.
i
n
r
 
(
1
1
,
 
[
.
r
e
f
 
h
l
k
,
 
.
r
e
f
 
h
v
,
 
.
r
e
f
 
h
t
,
 
.
r
e
f
 
h
c
o
l
,
 
.
r
e
f
 
h
a
n
s
,
 
.
i
n
t
 
c
f
o
r
,
 
.
i
n
t
 
c
b
a
c
k
,
 
.
i
n
t
 
f
i
l
t
]
)
)
,
 
(
h
a
n
s
,
 
.
i
n
r
 
(
6
,
 
[
.
r
e
f
 
a
a
n
s
,
 
.
i
n
t
 
X
a
n
s
.
1
]
)
)
,
 
(
a
a
n
s
,
 
.
i
n
l
 
(
E
.
2
.
1
,
 
4
3
2
,
 
.
i
n
l
 
X
a
n
s
.
2
)
)
,
 
(
a
o
u
t
,
 
.
i
n
l
 
(
c
L
,
 
1
,
 
.
i
n
r
 
(
.
i
n
l
 
g
g
)
)
)
]
)
 
[
1
,
 
2
,
 
3
,
 
0
]
 
r
f
l


 
 
 
 
h
a
v
e
 
h
D
9
 
:
=
 
h
D
_
2
7
.
s
u
b
 
(
w
s
'
 
:
=
 
[
(
h
,
 
.
i
n
r
 
(
1
1
,
 
[
.
r
e
f
 
h
l
k
,
 
.
r
e
f
 
h
v
,
 
.
r
e
f
 
h
t
,
 
.
r
e
f
 
h
c
o
l
,
 
.
r
e
f
 
h
a
n
s
,
 
.
i
n
t
 
c
f
o
r
,
 
.
i
n
t
 
c
b
a
c
k
,
 
.
i
n
t
 
f
i
l
t
]
)
)
,
 
(
h
a
n
s
,
 
.
i
n
r
 
(
6
,
 
[
.
r
e
f
 
a
a
n
s
,
 
.
i
n
t
 
X
a
n
s
.
1
]
)
)
,
 
(
a
a
n
s
,
 
.
i
n
l
 
(
E
.
2
.
1
,
 
4
3
2
,
 
.
i
n
l
 
X
a
n
s
.
2
)
)
,
 
(
a
o
u
t
,
 
.
i
n
l
 
(
c
L
,
 
1
,
 
.
i
n
r
 
(
.
i
n
l
 
g
g
)
)
)
]
)
 
[
1
,
 
2
,
 
3
,
 
0
]
 
(
b
y
 
d
e
c
i
d
e
)
 
r
f
l


 
 
 
 
e
x
a
c
t
 
W
.
i
r
e
t
 
(
v
 
:
=
 
1
)
 
h
x
 
h
b
 
h
r
 
(
f
u
n
 
t
 
h
t
 
h
W
 
=
>
 
⟨
⟨
1
,
 
g
g
,
 
r
f
l
,
 
⟨
c
o
n
g
r
A
r
g
 
P
r
o
d
.
f
s
t
 
h
p
o
s
t
,
 
c
o
n
g
r
A
r
g
 
P
r
o
d
.
s
n
d
 
h
p
o
s
t
⟩
,
 
b
y
 
r
w
 
[
h
t
]
;
 
e
x
a
c
t
 
h
P
9
,
 
h
D
9
⟩
,
 
h
S
_
2
7
.
F
 
h
t
⟩
)
 
h
S
_
2
7
.
2
.
2
 
d
L
_
o
u
t
_
1
4


 
 
·
 
h
a
v
e
 
e
_
3
2
 
:
 
t
_
2
5
 
=
 
(
(
0
,
 
r
_
2
3
)
 
:
 
N
a
t
 
×
 
I
n
t
3
2
)
 
:
=
 
h
t
_
2
5
.
t
r
a
n
s
 
h
u
_
2
3
.
s
y
m
m


 
 
 
 
h
a
v
e
 
c
_
3
1
 
:
 
t
_
2
5
.
1
 
=
 
0
 
:
=
 
b
y
 
r
w
 
[
e
_
3
2
]


 
 
 
 
o
b
t
a
i
n
 
r
f
l
 
:
 
r
_
2
3
 
=
 
t
_
2
5
.
2
 
:
=
 
(
c
o
n
g
r
A
r
g
 
(
f
u
n
 
z
 
:
 
N
a
t
 
×
 
I
n
t
3
2
 
=
>
 
z
.
2
)
 
e
_
3
2
)
.
s
y
m
m


 
 
 
 
r
e
p
l
a
c
e
 
h
P
_
2
4
 
:
 
v
a
_
P
 
E
.
1
 
v
w
C
l
 
[
(
a
o
u
t
,
 
.
i
n
l
 
(
c
L
,
 
1
,
 
.
i
n
r
 
(
.
i
n
l
 
g
g
)
)
)
,
 
(
h
,
 
.
i
n
r
 
(
1
1
,
 
[
.
r
e
f
 
h
l
k
,
 
.
r
e
f
 
h
v
,
 
.
r
e
f
 
h
t
,
 
.
r
e
f
 
h
c
o
l
,
 
.
r
e
f
 
h
a
n
s
,
 
.
i
n
t
 
c
f
o
r
,
 
.
i
n
t
 
c
b
a
c
k
,
 
.
i
n
t
 
f
i
l
t
]
)
)
,
 
(
h
a
n
s
,
 
.
i
n
r
 
(
6
,
 
[
.
r
e
f
 
a
a
n
s
,
 
.
i
n
t
 
X
a
n
s
.
1
]
)
)
,
 
(
a
a
n
s
,
 
.
i
n
l
 
(
E
.
2
.
1
,
 
4
3
2
,
 
.
i
n
l
 
X
a
n
s
.
2
)
)
]
 
H
_
2
4
 
:
=
 
h
P
_
2
4


 
 
 
 
r
e
p
l
a
c
e
 
h
D
_
2
4
 
:
 
v
a
_
D
 
A
 
[
(
a
o
u
t
,
 
.
i
n
l
 
(
c
L
,
 
1
,
 
.
i
n
r
 
(
.
i
n
l
 
g
g
)
)
)
,
 
(
h
,
 
.
i
n
r
 
(
1
1
,
 
[
.
r
e
f
 
h
l
k
,
 
.
r
e
f
 
h
v
,
 
.
r
e
f
 
h
t
,
 
.
r
e
f
 
h
c
o
l
,
 
.
r
e
f
 
h
a
n
s
,
 
.
i
n
t
 
c
f
o
r
,
 
.
i
n
t
 
c
b
a
c
k
,
 
.
i
n
t
 
f
i
l
t
]
)
)
,
 
(
h
a
n
s
,
 
.
i
n
r
 
(
6
,
 
[
.
r
e
f
 
a
a
n
s
,
 
.
i
n
t
 
X
a
n
s
.
1
]
)
)
,
 
(
a
a
n
s
,
 
.
i
n
l
 
(
E
.
2
.
1
,
 
4
3
2
,
 
.
i
n
l
 
X
a
n
s
.
2
)
)
]
 
:
=
 
h
D
_
2
4


 
 
 
 
c
l
e
a
r
 
h
P
 
h
D
 
h
S


 
 
 
 
r
e
f
i
n
e
 
l
v
_
i
2
l
 
(
v
 
:
=
 
t
_
2
5
.
2
.
t
o
I
n
t
6
4
)
 
h
x
 
h
b
 
d
L
_
o
u
t
_
7
 
r
f
l
 
?
_


 
 
 
 
r
e
f
i
n
e
 
v
a
_
l
a
s
t
 
h
x
 
h
b
 
h
L
 
h
P
_
2
4
 
h
D
_
2
4
 
h
S
_
2
4
 
0
 
2
 
r
f
l
 
r
f
l
 
(
b
y
 
d
e
c
i
d
e
)
 
d
L
_
o
u
t
_
8
 
(
f
u
n
 
H
_
3
3
 
l
o
c
s
_
3
3
 
h
P
_
3
3
 
h
D
_
3
3
 
h
S
_
3
3
 
=
>
 
?
_
)


 
 
 
 
r
e
p
l
a
c
e
 
h
P
_
3
3
 
:
 
v
a
_
P
 
E
.
1
 
v
w
C
l
 
[
(
a
o
u
t
,
 
.
i
n
l
 
(
c
L
,
 
1
,
 
.
i
n
r
 
(
.
i
n
l
 
(
v
p
_
u
p
d
L
 
g
g
 
(
0
 
:
 
I
n
t
3
2
)
.
t
o
N
a
t
C
l
a
m
p
N
e
g
 
(
t
_
2
5
.
2
.
t
o
I
n
t
6
4
)
)
)
)
)
,
 
(
h
,
 
.
i
n
r
 
(
1
1
,
 
[
.
r
e
f
 
h
l
k
,
 
.
r
e
f
 
h
v
,
 
.
r
e
f
 
h
t
,
 
.
r
e
f
 
h
c
o
l
,
 
.
r
e
f
 
h
a
n
s
,
 
.
i
n
t
 
c
f
o
r
,
 
.
i
n
t
 
c
b
a
c
k
,
 
.
i
n
t
 
f
i
l
t
]
)
)
,
 
(
h
a
n
s
,
 
.
i
n
r
 
(
6
,
 
[
.
r
e
f
 
a
a
n
s
,
 
.
i
n
t
 
X
a
n
s
.
1
]
)
)
,
 
(
a
a
n
s
,
 
.
i
n
l
 
(
E
.
2
.
1
,
 
4
3
2
,
 
.
i
n
l
 
X
a
n
s
.
2
)
)
]
 
H
_
3
3
 
:
=
 
h
P
_
3
3


 
 
 
 
r
e
p
l
a
c
e
 
h
D
_
3
3
 
:
 
v
a
_
D
 
A
 
[
(
a
o
u
t
,
 
.
i
n
l
 
(
c
L
,
 
1
,
 
.
i
n
r
 
(
.
i
n
l
 
(
v
p
_
u
p
d
L
 
g
g
 
(
0
 
:
 
I
n
t
3
2
)
.
t
o
N
a
t
C
l
a
m
p
N
e
g
 
(
t
_
2
5
.
2
.
t
o
I
n
t
6
4
)
)
)
)
)
,
 
(
h
,
 
.
i
n
r
 
(
1
1
,
 
[
.
r
e
f
 
h
l
k
,
 
.
r
e
f
 
h
v
,
 
.
r
e
f
 
h
t
,
 
.
r
e
f
 
h
c
o
l
,
 
.
r
e
f
 
h
a
n
s
,
 
.
i
n
t
 
c
f
o
r
,
 
.
i
n
t
 
c
b
a
c
k
,
 
.
i
n
t
 
f
i
l
t
]
)
)
,
 
(
h
a
n
s
,
 
.
i
n
r
 
(
6
,
 
[
.
r
e
f
 
a
a
n
s
,
 
.
i
n
t
 
X
a
n
s
.
1
]
)
)
,
 
(
a
a
n
s
,
 
.
i
n
l
 
(
E
.
2
.
1
,
 
4
3
2
,
 
.
i
n
l
 
X
a
n
s
.
2
)
)
]
 
:
=
 
h
D
_
3
3


 
 
 
 
c
l
e
a
r
 
h
P
_
2
4
 
h
D
_
2
4
 
h
S
_
2
4


 
 
 
 
r
e
f
i
n
e
 
l
v
_
g
o
t
o
 
(
t
g
t
 
:
=
 
1
5
)
 
h
x
 
h
b
 
d
L
_
o
u
t
_
9
 
(
b
y
 
d
e
c
i
d
e
)
 
?
_


 
 
 
 
r
e
f
i
n
e
 
l
v
_
i
c
o
n
s
t
 
(
v
 
:
=
 
0
)
 
h
x
 
h
b
 
d
L
_
o
u
t
_
1
5
 
(
b
y
 
d
e
c
i
d
e
)
 
?
_


 
 
 
 
r
e
f
i
n
e
 
v
x
_
r
e
t
 
?
_


 
 
 
 
h
a
v
e
 
h
p
o
s
t
 
:
 
(
(
0
,
 
(
v
p
_
u
p
d
L
 
g
g
 
(
0
 
:
 
I
n
t
3
2
)
.
t
o
N
a
t
C
l
a
m
p
N
e
g
 
(
t
_
2
5
.
2
.
t
o
I
n
t
6
4
)
)
)
 
:
 
I
n
t
3
2
 
×
 
(
N
a
t
 
→
 
I
n
t
6
4
)
)
 
=
 
F
_
L
_
o
u
t
_
e
 
X
a
n
s
 
g
g
 
v
i
 
:
=
 
(
s
h
o
w
 
F
_
L
_
o
u
t
_
e
 
X
a
n
s
 
g
g
 
v
i
 
=
 
(
(
0
,
 
(
v
p
_
u
p
d
L
 
g
g
 
(
0
 
:
 
I
n
t
3
2
)
.
t
o
N
a
t
C
l
a
m
p
N
e
g
 
(
t
_
2
5
.
2
.
t
o
I
n
t
6
4
)
)
)
 
:
 
I
n
t
3
2
 
×
 
(
N
a
t
 
→
 
I
n
t
6
4
)
)
 
f
r
o
m
 
(
g
L
e
t
_
e
q
 
h
t
_
2
5
 
(
(
i
f
_
p
o
s
 
c
_
3
1
)
.
t
r
a
n
s
 
r
f
l
)
)
)
.
s
y
m
m


 
 
 
 
h
a
v
e
 
h
P
9
 
:
=
 
h
P
_
3
3
.
s
u
b
 
(
w
s
'
 
:
=
 
[
(
h
,
 
.
i
n
r
 
(
1
1
,
 
[
.
r
e
f
 
h
l
k
,
 
.
r
e
f
 
h
v
,
 
.
r
e
f
 
h
t
,
 
.
r
e
f
 
h
c
o
l
,
 
.
r
e
f
 
h
a
n
s
,
 
.
i
n
t
 
c
f
o
r
,
 
.
i
n
t
 
c
b
a
c
k
,
 
.
i
n
t
 
f
i
l
t
]
)
)
,
 
(
h
a
n
s
,
 
.
i
n
r
 
(
6
,
 
[
.
r
e
f
 
a
a
n
s
,
 
.
i
n
t
 
X
a
n
s
.
1
]
)
)
,
 
(
a
a
n
s
,
 
.
i
n
l
 
(
E
.
2
.
1
,
 
4
3
2
,
 
.
i
n
l
 
X
a
n
s
.
2
)
)
,
 
(
a
o
u
t
,
 
.
i
n
l
 
(
c
L
,
 
1
,
 
.
i
n
r
 
(
.
i
n
l
 
(
v
p
_
u
p
d
L
 
g
g
 
(
0
 
:
 
I
n
t
3
2
)
.
t
o
N
a
t
C
l
a
m
p
N
e
g
 
(
t
_
2
5
.
2
.
t
o
I
n
t
6
4
)
)
)
)
)
]
)
 
[
1
,
 
2
,
 
3
,
 
0
]
 
r
f
l


 
 
 
 
h
a
v
e
 
h
D
9
 
:
=
 
h
D
_
3
3
.
s
u
b
 
(
w
s
'
 
:
=
 
[
(
h
,
 
.
i
n
r
 
(
1
1
,
 
[
.
r
e
f
 
h
l
k
,
 
.
r
e
f
 
h
v
,
 
.
r
e
f
 
h
t
,
 
.
r
e
f
 
h
c
o
l
,
 
.
r
e
f
 
h
a
n
s
,
 
.
i
n
t
 
c
f
o
r
,
 
.
i
n
t
 
c
b
a
c
k
,
 
.
i
n
t
 
f
i
l
t
]
)
)
,
 
(
h
a
n
s
,
 
.
i
n
r
 
(
6
,
 
[
.
r
e
f
 
a
a
n
s
,
 
.
i
n
t
 
X
a
n
s
.
1
]
)
)
,
 
(
a
a
n
s
,
 
.
i
n
l
 
(
E
.
2
.
1
,
 
4
3
2
,
 
.
i
n
l
 
X
a
n
s
.
2
)
)
,
 
(
a
o
u
t
,
 
.
i
n
l
 
(
c
L
,
 
1
,
 
.
i
n
r
 
(
.
i
n
l
 
(
v
p
_
u
p
d
L
 
g
g
 
(
0
 
:
 
I
n
t
3
2
)
.
t
o
N
a
t
C
l
a
m
p
N
e
g
 
(
t
_
2
5
.
2
.
t
o
I
n
t
6
4
)
)
)
)
)
]
)
 
[
1
,
 
2
,
 
3
,
 
0
]
 
(
b
y
 
d
e
c
i
d
e
)
 
r
f
l


 
 
 
 
e
x
a
c
t
 
W
.
i
r
e
t
 
(
v
 
:
=
 
0
)
 
h
x
 
h
b
 
h
r
 
(
f
u
n
 
t
 
h
t
 
h
W
 
=
>
 
⟨
⟨
0
,
 
(
v
p
_
u
p
d
L
 
g
g
 
(
0
 
:
 
I
n
t
3
2
)
.
t
o
N
a
t
C
l
a
m
p
N
e
g
 
(
t
_
2
5
.
2
.
t
o
I
n
t
6
4
)
)
,
 
r
f
l
,
 
⟨
c
o
n
g
r
A
r
g
 
P
r
o
d
.
f
s
t
 
h
p
o
s
t
,
 
c
o
n
g
r
A
r
g
 
P
r
o
d
.
s
n
d
 
h
p
o
s
t
⟩
,
 
b
y
 
r
w
 
[
h
t
]
;
 
e
x
a
c
t
 
h
P
9
,
 
h
D
9
⟩
,
 
h
S
_
3
3
.
F
 
h
t
⟩
)
 
h
S
_
3
3
.
2
.
2
 
d
L
_
o
u
t
_
1
6


s
e
t
_
o
p
t
i
o
n
 
m
a
x
H
e
a
r
t
b
e
a
t
s
 
4
0
0
0
0
0
0
 
i
n


s
e
t
_
o
p
t
i
o
n
 
m
a
x
R
e
c
D
e
p
t
h
 
1
0
0
0
0
0
 
i
n


t
h
e
o
r
e
m
 
k
_
L
_
d
i
g
e
s
t
_
e
 
(
E
 
:
 
g
E
)
 
(
s
a
 
:
 
N
a
t
 
→
 
N
a
t
)
 
(
c
L
 
:
 
C
l
a
s
s
I
d
)
 
(
l
 
:
 
L
a
u
n
c
h
)
 
(
h
s
t
 
:
 
l
.
s
t
a
c
k
T
r
a
c
e
s
 
=
 
f
a
l
s
e
)
 
(
h
 
a
o
u
t
 
h
l
k
 
h
v
 
h
t
 
h
c
o
l
 
h
a
n
s
 
h
s
m
 
h
g
r
 
h
s
r
 
h
b
l
 
h
t
e
x
t
 
h
s
u
m
 
q
b
s
m
 
q
s
s
m
 
q
w
g
r
 
q
s
g
r
 
a
c
o
l
 
a
a
n
s
 
:
 
N
a
t
)
 
(
c
f
o
r
 
:
 
I
n
t
3
2
)
 
(
c
b
a
c
k
 
:
 
I
n
t
3
2
)
 
(
f
i
l
t
 
:
 
I
n
t
3
2
)
 
(
b
k
s
m
 
:
 
N
a
t
 
→
 
I
n
t
3
2
)
 
(
s
t
s
m
 
:
 
N
a
t
 
→
 
I
n
t
3
2
)
 
(
w
d
g
r
 
:
 
N
a
t
 
→
 
I
n
t
3
2
)
 
(
s
t
g
r
 
:
 
N
a
t
 
→
 
I
n
t
3
2
)
 
(
X
c
o
l
 
:
 
g
R
o
w
)
 
(
X
a
n
s
 
:
 
g
R
o
w
)
 
(
g
g
 
:
 
N
a
t
 
→
 
I
n
t
6
4
)
 
(
k
i
n
d
 
:
 
I
n
t
3
2
)
 
:
 
g
H
i
 
E
 
s
a
 
c
L
 
l
 
y
L
_
d
i
g
e
s
t
 
w
s
L
_
d
i
g
e
s
t
 
(
{
 
f
r
a
m
e
s
 
:
=
 
7
,
 
c
e
l
l
s
 
:
=
 
1
,
 
s
l
o
t
s
 
:
=
 
6
,
 
l
o
c
a
l
s
 
:
=
 
1
0
3
 
}
)
 
1
 
6
 
[
.
r
e
f
 
h
,
 
.
i
n
t
 
k
i
n
d
,
 
.
r
e
f
 
a
o
u
t
]
 
[
(
h
,
 
.
i
n
r
 
(
1
1
,
 
[
.
r
e
f
 
h
l
k
,
 
.
r
e
f
 
h
v
,
 
.
r
e
f
 
h
t
,
 
.
r
e
f
 
h
c
o
l
,
 
.
r
e
f
 
h
a
n
s
,
 
.
i
n
t
 
c
f
o
r
,
 
.
i
n
t
 
c
b
a
c
k
,
 
.
i
n
t
 
f
i
l
t
]
)
)
,
 
(
h
t
,
 
.
i
n
r
 
(
9
,
 
[
.
r
e
f
 
h
s
m
,
 
.
r
e
f
 
h
g
r
,
 
.
r
e
f
 
h
s
r
,
 
.
r
e
f
 
h
b
l
,
 
.
r
e
f
 
h
t
e
x
t
,
 
.
r
e
f
 
h
s
u
m
]
)
)
,
 
(
h
s
m
,
 
.
i
n
r
 
(
7
,
 
[
.
r
e
f
 
q
b
s
m
,
 
.
r
e
f
 
q
s
s
m
]
)
)
,
 
(
q
b
s
m
,
 
.
i
n
l
 
(
E
.
2
.
1
,
 
1
6
,
 
.
i
n
l
 
b
k
s
m
)
)
,
 
(
q
s
s
m
,
 
.
i
n
l
 
(
E
.
2
.
1
,
 
4
,
 
.
i
n
l
 
s
t
s
m
)
)
,
 
(
h
g
r
,
 
.
i
n
r
 
(
4
,
 
[
.
r
e
f
 
q
w
g
r
,
 
.
r
e
f
 
q
s
g
r
]
)
)
,
 
(
q
w
g
r
,
 
.
i
n
l
 
(
E
.
2
.
1
,
 
6
4
,
 
.
i
n
l
 
w
d
g
r
)
)
,
 
(
q
s
g
r
,
 
.
i
n
l
 
(
E
.
2
.
1
,
 
8
,
 
.
i
n
l
 
s
t
g
r
)
)
,
 
(
h
c
o
l
,
 
.
i
n
r
 
(
6
,
 
[
.
r
e
f
 
a
c
o
l
,
 
.
i
n
t
 
X
c
o
l
.
1
]
)
)
,
 
(
a
c
o
l
,
 
.
i
n
l
 
(
E
.
2
.
1
,
 
4
0
0
,
 
.
i
n
l
 
X
c
o
l
.
2
)
)
,
 
(
h
a
n
s
,
 
.
i
n
r
 
(
6
,
 
[
.
r
e
f
 
a
a
n
s
,
 
.
i
n
t
 
X
a
n
s
.
1
]
)
)
,
 
(
a
a
n
s
,
 
.
i
n
l
 
(
E
.
2
.
1
,
 
4
3
2
,
 
.
i
n
l
 
X
a
n
s
.
2
)
)
,
 
(
a
o
u
t
,
 
.
i
n
l
 
(
c
L
,
 
1
,
 
.
i
n
r
 
(
.
i
n
l
 
g
g
)
)
)
]
 
(
f
u
n
 
(
r
r
 
:
 
I
n
t
3
2
)
 
(
u
u
 
:
 
(
N
a
t
 
→
 
I
n
t
3
2
)
 
×
 
(
N
a
t
 
→
 
I
n
t
3
2
)
 
×
 
(
N
a
t
 
→
 
I
n
t
3
2
)
 
×
 
(
N
a
t
 
→
 
I
n
t
3
2
)
 
×
 
g
R
o
w
 
×
 
(
N
a
t
 
→
 
I
n
t
6
4
)
)
 
=
>
 
r
r
 
=
 
(
F
_
L
_
d
i
g
e
s
t
_
e
 
b
k
s
m
 
s
t
s
m
 
w
d
g
r
 
s
t
g
r
 
X
c
o
l
 
X
a
n
s
 
g
g
 
k
i
n
d
)
.
1
 
∧
 
u
u
 
=
 
(
F
_
L
_
d
i
g
e
s
t
_
e
 
b
k
s
m
 
s
t
s
m
 
w
d
g
r
 
s
t
g
r
 
X
c
o
l
 
X
a
n
s
 
g
g
 
k
i
n
d
)
.
2
)
 
(
f
u
n
 
(
u
u
 
:
 
(
N
a
t
 
→
 
I
n
t
3
2
)
 
×
 
(
N
a
t
 
→
 
I
n
t
3
2
)
 
×
 
(
N
a
t
 
→
 
I
n
t
3
2
)
 
×
 
(
N
a
t
 
→
 
I
n
t
3
2
)
 
×
 
g
R
o
w
 
×
 
(
N
a
t
 
→
 
I
n
t
6
4
)
)
 
=
>
 
[
(
h
,
 
.
i
n
r
 
(
1
1
,
 
[
.
r
e
f
 
h
l
k
,
 
.
r
e
f
 
h
v
,
 
.
r
e
f
 
h
t
,
 
.
r
e
f
 
h
c
o
l
,
 
.
r
e
f
 
h
a
n
s
,
 
.
i
n
t
 
c
f
o
r
,
 
.
i
n
t
 
c
b
a
c
k
,
 
.
i
n
t
 
f
i
l
t
]
)
)
,
 
(
h
t
,
 
.
i
n
r
 
(
9
,
 
[
.
r
e
f
 
h
s
m
,
 
.
r
e
f
 
h
g
r
,
 
.
r
e
f
 
h
s
r
,
 
.
r
e
f
 
h
b
l
,
 
.
r
e
f
 
h
t
e
x
t
,
 
.
r
e
f
 
h
s
u
m
]
)
)
,
 
(
h
s
m
,
 
.
i
n
r
 
(
7
,
 
[
.
r
e
f
 
q
b
s
m
,
 
.
r
e
f
 
q
s
s
m
]
)
)
,
 
(
q
b
s
m
,
 
.
i
n
l
 
(
E
.
2
.
1
,
 
1
6
,
 
.
i
n
l
 
u
u
.
1
)
)
,
 
(
q
s
s
m
,
 
.
i
n
l
 
(
E
.
2
.
1
,
 
4
,
 
.
i
n
l
 
u
u
.
2
.
1
)
)
,
 
(
h
g
r
,
 
.
i
n
r
 
(
4
,
 
[
.
r
e
f
 
q
w
g
r
,
 
.
r
e
f
 
q
s
g
r
]
)
)
,
 
(
q
w
g
r
,
 
.
i
n
l
 
(
E
.
2
.
1
,
 
6
4
,
 
.
i
n
l
 
u
u
.
2
.
2
.
1
)
)
,
 
(
q
s
g
r
,
 
.
i
n
l
 
(
E
.
2
.
1
,
 
8
,
 
.
i
n
l
 
u
u
.
2
.
2
.
2
.
1
)
)
,
 
(
h
c
o
l
,
 
.
i
n
r
 
(
6
,
 
[
.
r
e
f
 
a
c
o
l
,
 
.
i
n
t
 
X
c
o
l
.
1
]
)
)
,
 
(
a
c
o
l
,
 
.
i
n
l
 
(
E
.
2
.
1
,
 
4
0
0
,
 
.
i
n
l
 
X
c
o
l
.
2
)
)
,
 
(
h
a
n
s
,
 
.
i
n
r
 
(
6
,
 
[
.
r
e
f
 
a
a
n
s
,
 
.
i
n
t
 
u
u
.
2
.
2
.
2
.
2
.
1
.
1
]
)
)
,
 
(
a
a
n
s
,
 
.
i
n
l
 
(
E
.
2
.
1
,
 
4
3
2
,
 
.
i
n
l
 
u
u
.
2
.
2
.
2
.
2
.
1
.
2
)
)
,
 
(
a
o
u
t
,
 
.
i
n
l
 
(
c
L
,
 
1
,
 
.
i
n
r
 
(
.
i
n
l
 
u
u
.
2
.
2
.
2
.
2
.
2
)
)
)
]
)
 
:
=
 
b
y


 
 
i
n
t
r
o
 
s
z


 
 
r
e
f
i
n
e
 
v
x
_
o
f
W
H
 
(
h
h
 
:
=
 
[
(
0
,
 
9
,
 
1
2
,
 
4
1
)
]
)
 
(
c
c
 
:
=
 
c
L
_
d
i
g
e
s
t
)
 
(
m
a
x
L
 
:
=
 
4
)
 
(
r
e
t
 
:
=
 
(
s
o
m
e
 
.
i
n
t
)
)
 
(
b
y
 
d
e
c
i
d
e
)
 
r
f
l
 
?
_


 
 
i
n
t
r
o
 
p
 
e
 
s
 
m
 
a
r
g
s
 
b
e
l
o
w
 
m
e
t
h
 
c
 
s
₁
 
B
 
h
m
l
 
h
v


 
 
o
b
t
a
i
n
 
⟨
r
f
l
,
 
h
s
z
,
 
h
P
,
 
⟨
h
V
,
 
h
X
,
 
h
L
⟩
,
 
h
D
0
⟩
 
:
=
 
h
v


 
 
h
a
v
e
 
h
x
 
:
=
 
B
.
e
x
e
c


 
 
h
a
v
e
 
h
b
 
:
=
 
B
.
b
y
t
e
s


 
 
h
a
v
e
 
h
r
 
:
=
 
B
.
r
e
t
u
r
n
s


 
 
h
a
v
e
 
h
t
s
 
:
=
 
a
t
o
m
s
_
s
p
e
c
 
(
w
s
 
:
=
 
w
s
L
_
d
i
g
e
s
t
)
 
B
.
p
r
e


 
 
h
a
v
e
 
h
o
w
n
 
:
 
s
.
v
m
.
f
i
n
d
C
l
a
s
s
 
R
L
 
=
 
s
o
m
e
 
m
.
c
l
s
 
:
=
 
f
i
n
d
C
l
a
s
s
_
o
f
_
m
e
t
h
o
d
N
a
m
e
d
 
B
.
n
a
m
e
d


 
 
h
a
v
e
 
h
l
o
c
k
s
 
:
=
 
B
.
n
o
t
S
y
n
c
h
r
o
n
i
z
e
d


 
 
h
a
v
e
 
h
t
a
b
 
:
=
 
v
x
_
t
a
b
l
e
 
B
 
(
h
t
s
 
(
.
c
o
d
e
W
i
t
h
 
y
L
_
d
i
g
e
s
t
 
c
L
_
d
i
g
e
s
t
 
4
 
(
s
o
m
e
 
.
i
n
t
)
 
[
(
0
,
 
9
,
 
1
2
,
 
4
1
)
]
)
 
(
b
y
 
d
e
c
i
d
e
 
+
k
e
r
n
e
l
)
)


 
 
s
u
b
s
t
 
h
s
z


 
 
h
a
v
e
 
h
D
 
:
=
 
h
D
0
.
s
e
l
f
 
(
s
z
 
:
=
 
s
.
h
e
a
p
.
s
i
z
e
)


 
 
c
l
e
a
r
 
h
D
0


 
 
g
e
n
e
r
a
l
i
z
e
 
h
A
e
 
:
 
v
a
_
A
 
[
(
h
,
 
.
i
n
r
 
(
1
1
,
 
[
.
r
e
f
 
h
l
k
,
 
.
r
e
f
 
h
v
,
 
.
r
e
f
 
h
t
,
 
.
r
e
f
 
h
c
o
l
,
 
.
r
e
f
 
h
a
n
s
,
 
.
i
n
t
 
c
f
o
r
,
 
.
i
n
t
 
c
b
a
c
k
,
 
.
i
n
t
 
f
i
l
t
]
)
)
,
 
(
h
t
,
 
.
i
n
r
 
(
9
,
 
[
.
r
e
f
 
h
s
m
,
 
.
r
e
f
 
h
g
r
,
 
.
r
e
f
 
h
s
r
,
 
.
r
e
f
 
h
b
l
,
 
.
r
e
f
 
h
t
e
x
t
,
 
.
r
e
f
 
h
s
u
m
]
)
)
,
 
(
h
s
m
,
 
.
i
n
r
 
(
7
,
 
[
.
r
e
f
 
q
b
s
m
,
 
.
r
e
f
 
q
s
s
m
]
)
)
,
 
(
q
b
s
m
,
 
.
i
n
l
 
(
E
.
2
.
1
,
 
1
6
,
 
.
i
n
l
 
b
k
s
m
)
)
,
 
(
q
s
s
m
,
 
.
i
n
l
 
(
E
.
2
.
1
,
 
4
,
 
.
i
n
l
 
s
t
s
m
)
)
,
 
(
h
g
r
,
 
.
i
n
r
 
(
4
,
 
[
.
r
e
f
 
q
w
g
r
,
 
.
r
e
f
 
q
s
g
r
]
)
)
,
 
(
q
w
g
r
,
 
.
i
n
l
 
(
E
.
2
.
1
,
 
6
4
,
 
.
i
n
l
 
w
d
g
r
)
)
,
 
(
q
s
g
r
,
 
.
i
n
l
 
(
E
.
2
.
1
,
 
8
,
 
.
i
n
l
 
s
t
g
r
)
)
,
 
(
h
c
o
l
,
 
.
i
n
r
 
(
6
,
 
[
.
r
e
f
 
a
c
o
l
,
 
.
i
n
t
 
X
c
o
l
.
1
]
)
)
,
 
(
a
c
o
l
,
 
.
i
n
l
 
(
E
.
2
.
1
,
 
4
0
0
,
 
.
i
n
l
 
X
c
o
l
.
2
)
)
,
 
(
h
a
n
s
,
 
.
i
n
r
 
(
6
,
 
[
.
r
e
f
 
a
a
n
s
,
 
.
i
n
t
 
X
a
n
s
.
1
]
)
)
,
 
(
a
a
n
s
,
 
.
i
n
l
 
(
E
.
2
.
1
,
 
4
3
2
,
 
.
i
n
l
 
X
a
n
s
.
2
)
)
,
 
(
a
o
u
t
,
 
.
i
n
l
 
(
c
L
,
 
1
,
 
.
i
n
r
 
(
.
i
n
l
 
g
g
)
)
)
]
 
s
.
h
e
a
p
.
s
i
z
e
 
=
 
A
 
a
t
 
h
D
 
h
V
 
h
X
 
⊢


 
 
h
a
v
e
 
h
A
 
:
 
∀
 
q
 
:
 
N
a
t
,
 
s
.
h
e
a
p
.
s
i
z
e
 
≤
 
q
 
→
 
A
 
q
 
:
=
 
f
u
n
 
q
 
h
 
=
>
 
b
y
 
r
w
 
[
←
 
h
A
e
]
;
 
e
x
a
c
t
 
O
r
.
i
n
r
 
h


 
 
h
a
v
e
 
h
S
 
:
 
v
a
_
S
 
A
 
s
.
h
e
a
p
 
s
.
h
e
a
p
 
[
]
 
:
=
 
v
a
_
S
.
r
f


 
 
h
a
v
e
 
h
K
 
:
=
 
h
V
.
1


 
 
h
a
v
e
 
h
F
 
:
 
C
a
l
l
F
i
x
 
p
 
m
 
c
 
c
L
_
d
i
g
e
s
t
 
4
 
s
 
_
 
w
s
L
_
d
i
g
e
s
t
 
R
L
 
:
=
 
⟨
h
x
,
 
h
b
,
 
h
m
l
,
 
h
o
w
n
,
 
h
t
s
⟩


 
 
h
a
v
e
 
h
l
 
:
=
 
l
v
_
e
n
t
r
y
 
[
.
r
e
f
 
h
,
 
.
i
n
t
 
k
i
n
d
,
 
.
r
e
f
 
a
o
u
t
]
 
(
n
 
:
=
 
4
)
 
(
N
a
t
.
l
e
_
o
f
_
b
l
e
_
e
q
_
t
r
u
e
 
r
f
l
)


 
 
r
w
 
[
l
g
_
e
n
t
r
y
_
e
q
]


 
 
g
e
n
e
r
a
l
i
z
e
 
(
l
g
_
s
l
 
[
.
r
e
f
 
h
,
 
.
i
n
t
 
k
i
n
d
,
 
.
r
e
f
 
a
o
u
t
]
 
+
+
 
L
i
s
t
.
r
e
p
l
i
c
a
t
e
 
(
4
 
-
 
(
l
g
_
s
l
 
[
.
r
e
f
 
h
,
 
.
i
n
t
 
k
i
n
d
,
 
.
r
e
f
 
a
o
u
t
]
)
.
l
e
n
g
t
h
)
 
S
l
o
t
.
u
n
s
e
t
)
.
t
o
A
r
r
a
y
 
=
 
l
s
 
a
t
 
h
l
 
⊢


 
 
h
a
v
e
 
h
l
 
:
 
l
v
_
h
a
s
 
l
s
 
4
 
[
(
0
,
 
.
r
e
f
 
h
)
,
 
(
1
,
 
.
i
n
t
 
k
i
n
d
)
,
 
(
2
,
 
.
r
e
f
 
a
o
u
t
)
]
 
:
=
 
h
l


 
 
h
a
v
e
 
w
_
0
 
:
=
 
h
t
s
 
(
.
c
l
a
s
s
L
i
n
k
 
R
L
 
4
1
 
"
j
a
v
a
/
l
a
n
g
/
I
l
l
e
g
a
l
A
r
g
u
m
e
n
t
E
x
c
e
p
t
i
o
n
"
)
 
(
b
y
 
d
e
c
i
d
e
 
+
k
e
r
n
e
l
)


 
 
r
e
f
i
n
e
 
l
v
_
a
l
o
a
d
_
n
 
h
x
 
h
b
 
d
L
_
d
i
g
e
s
t
_
0
 
r
f
l
 
(
l
v
_
a
t
 
h
l
 
2
 
r
f
l
)
 
?
_


 
 
r
e
f
i
n
e
 
l
v
_
i
c
o
n
s
t
 
(
v
 
:
=
 
0
)
 
h
x
 
h
b
 
d
L
_
d
i
g
e
s
t
_
1
 
(
b
y
 
d
e
c
i
d
e
)
 
?
_


 
 
r
e
f
i
n
e
 
l
v
_
a
l
o
a
d
_
n
 
h
x
 
h
b
 
d
L
_
d
i
g
e
s
t
_
2
 
r
f
l
 
(
l
v
_
a
t
 
h
l
 
0
 
r
f
l
)
 
?
_


 
 
r
e
f
i
n
e
 
l
v
_
i
l
o
a
d
_
n
 
h
x
 
h
b
 
d
L
_
d
i
g
e
s
t
_
3
 
r
f
l
 
(
l
v
_
a
t
 
h
l
 
1
 
r
f
l
)
 
?
_


 
 
o
b
t
a
i
n
 
⟨
t
_
2
5
,
 
h
t
_
2
5
⟩
 
:
 
∃
 
t
9
 
:
 
N
a
t
 
×
 
(
I
n
t
3
2
 
×
 
(
(
N
a
t
 
→
 
I
n
t
3
2
)
 
×
 
(
N
a
t
 
→
 
I
n
t
3
2
)
 
×
 
(
N
a
t
 
→
 
I
n
t
3
2
)
 
×
 
(
N
a
t
 
→
 
I
n
t
3
2
)
 
×
 
g
R
o
w
)
)
,
 
t
9
 
=
 
F
_
X
1
0
_
d
i
g
e
s
t
_
e
 
b
k
s
m
 
s
t
s
m
 
w
d
g
r
 
s
t
g
r
 
X
c
o
l
 
X
a
n
s
 
k
i
n
d
 
:
=
 
⟨
_
,
 
r
f
l
⟩


 
 
r
e
f
i
n
e
 
g
T
V
i
 
h
F
 
h
l
 
h
V
 
h
X
 
h
P
 
h
D
 
h
S
 
h
A
 
[
0
,
 
1
,
 
2
,
 
3
,
 
4
,
 
5
,
 
6
,
 
7
,
 
8
,
 
9
,
 
1
0
,
 
1
1
]
 
[
1
2
]
 
(
w
c
 
:
=
 
[
(
h
,
 
.
i
n
r
 
(
1
1
,
 
[
.
r
e
f
 
h
l
k
,
 
.
r
e
f
 
h
v
,
 
.
r
e
f
 
h
t
,
 
.
r
e
f
 
h
c
o
l
,
 
.
r
e
f
 
h
a
n
s
,
 
.
i
n
t
 
c
f
o
r
,
 
.
i
n
t
 
c
b
a
c
k
,
 
.
i
n
t
 
f
i
l
t
]
)
)
,
 
(
h
t
,
 
.
i
n
r
 
(
9
,
 
[
.
r
e
f
 
h
s
m
,
 
.
r
e
f
 
h
g
r
,
 
.
r
e
f
 
h
s
r
,
 
.
r
e
f
 
h
b
l
,
 
.
r
e
f
 
h
t
e
x
t
,
 
.
r
e
f
 
h
s
u
m
]
)
)
,
 
(
h
s
m
,
 
.
i
n
r
 
(
7
,
 
[
.
r
e
f
 
q
b
s
m
,
 
.
r
e
f
 
q
s
s
m
]
)
)
,
 
(
q
b
s
m
,
 
.
i
n
l
 
(
E
.
2
.
1
,
 
1
6
,
 
.
i
n
l
 
b
k
s
m
)
)
,
 
(
q
s
s
m
,
 
.
i
n
l
 
(
E
.
2
.
1
,
 
4
,
 
.
i
n
l
 
s
t
s
m
)
)
,
 
(
h
g
r
,
 
.
i
n
r
 
(
4
,
 
[
.
r
e
f
 
q
w
g
r
,
 
.
r
e
f
 
q
s
g
r
]
)
)
,
 
(
q
w
g
r
,
 
.
i
n
l
 
(
E
.
2
.
1
,
 
6
4
,
 
.
i
n
l
 
w
d
g
r
)
)
,
 
(
q
s
g
r
,
 
.
i
n
l
 
(
E
.
2
.
1
,
 
8
,
 
.
i
n
l
 
s
t
g
r
)
)
,
 
(
h
c
o
l
,
 
.
i
n
r
 
(
6
,
 
[
.
r
e
f
 
a
c
o
l
,
 
.
i
n
t
 
X
c
o
l
.
1
]
)
)
,
 
(
a
c
o
l
,
 
.
i
n
l
 
(
E
.
2
.
1
,
 
4
0
0
,
 
.
i
n
l
 
X
c
o
l
.
2
)
)
,
 
(
h
a
n
s
,
 
.
i
n
r
 
(
6
,
 
[
.
r
e
f
 
a
a
n
s
,
 
.
i
n
t
 
X
a
n
s
.
1
]
)
)
,
 
(
a
a
n
s
,
 
.
i
n
l
 
(
E
.
2
.
1
,
 
4
3
2
,
 
.
i
n
l
 
X
a
n
s
.
2
)
)
]
)
 
(
w
r
 
:
=
 
[
(
a
o
u
t
,
 
.
i
n
l
 
(
c
L
,
 
1
,
 
.
i
n
r
 
(
.
i
n
l
 
g
g
)
)
)
]
)
 
r
f
l
 
r
f
l
 
r
f
l
 
(
b
y
 
d
e
c
i
d
e
)
 
0
 
1
1
 
r
f
l
 
r
f
l
 
r
f
l
 
(
k
_
X
1
0
_
d
i
g
e
s
t
_
e
 
E
 
s
a
 
l
 
h
s
t
 
h
 
h
l
k
 
h
v
 
h
t
 
h
c
o
l
 
h
a
n
s
 
h
s
m
 
h
g
r
 
h
s
r
 
h
b
l
 
h
t
e
x
t
 
h
s
u
m
 
q
b
s
m
 
q
s
s
m
 
q
w
g
r
 
q
s
g
r
 
a
c
o
l
 
a
a
n
s
 
c
f
o
r
 
c
b
a
c
k
 
f
i
l
t
 
b
k
s
m
 
s
t
s
m
 
w
d
g
r
 
s
t
g
r
 
X
c
o
l
 
X
a
n
s
 
k
i
n
d
)
 
(
c
w
V
 
1
 
h
t
s
 
g
L
_
d
i
g
e
s
t
_
X
1
0
_
d
i
g
e
s
t
 
r
f
l
 
r
f
l
 
r
f
l
 
(
b
y
 
d
e
c
i
d
e
 
+
k
e
r
n
e
l
)
 
⟨
N
a
t
.
l
e
_
o
f
_
b
l
e
_
e
q
_
t
r
u
e
 
r
f
l
,
 
N
a
t
.
l
e
_
o
f
_
b
l
e
_
e
q
_
t
r
u
e
 
r
f
l
⟩
)
 
r
f
l
 
r
f
l
 
r
f
l
 
(
N
a
t
.
l
e
_
o
f
_
b
l
e
_
e
q
_
t
r
u
e
 
r
f
l
)
 
d
L
_
d
i
g
e
s
t
_
4
 
⟨
N
a
t
.
l
e
_
o
f
_
b
l
e
_
e
q
_
t
r
u
e
 
r
f
l
,
 
N
a
t
.
l
e
_
o
f
_
b
l
e
_
e
q
_
t
r
u
e
 
r
f
l
⟩
 
(
f
u
n
 
n
m
_
2
6
 
c
e
_
2
6
 
q
_
2
6
 
H
_
2
7
 
l
o
c
s
_
2
7
 
p
x
_
2
6
 
h
P
_
2
7
 
h
D
_
2
7
 
h
S
_
2
7
 
h
c
e
_
2
6
 
h
c
v
_
2
6
 
h
c
l
_
2
6
 
=
>
 
?
_
)
 
(
f
u
n
 
r
_
2
3
 
u
_
2
3
 
H
_
2
4
 
l
o
c
s
_
2
4
 
h
u
_
2
3
 
h
P
_
2
4
 
h
D
_
2
4
 
h
S
_
2
4
 
=
>
 
?
_
)


 
 
·
 
r
e
p
l
a
c
e
 
h
P
_
2
7
 
:
 
v
a
_
P
 
E
.
1
 
v
w
C
l
 
[
(
a
o
u
t
,
 
.
i
n
l
 
(
c
L
,
 
1
,
 
.
i
n
r
 
(
.
i
n
l
 
g
g
)
)
)
,
 
(
h
,
 
.
i
n
r
 
(
1
1
,
 
[
.
r
e
f
 
h
l
k
,
 
.
r
e
f
 
h
v
,
 
.
r
e
f
 
h
t
,
 
.
r
e
f
 
h
c
o
l
,
 
.
r
e
f
 
h
a
n
s
,
 
.
i
n
t
 
c
f
o
r
,
 
.
i
n
t
 
c
b
a
c
k
,
 
.
i
n
t
 
f
i
l
t
]
)
)
,
 
(
h
t
,
 
.
i
n
r
 
(
9
,
 
[
.
r
e
f
 
h
s
m
,
 
.
r
e
f
 
h
g
r
,
 
.
r
e
f
 
h
s
r
,
 
.
r
e
f
 
h
b
l
,
 
.
r
e
f
 
h
t
e
x
t
,
 
.
r
e
f
 
h
s
u
m
]
)
)
,
 
(
h
s
m
,
 
.
i
n
r
 
(
7
,
 
[
.
r
e
f
 
q
b
s
m
,
 
.
r
e
f
 
q
s
s
m
]
)
)
,
 
(
q
b
s
m
,
 
.
i
n
l
 
(
E
.
2
.
1
,
 
1
6
,
 
.
i
n
l
 
b
k
s
m
)
)
,
 
(
q
s
s
m
,
 
.
i
n
l
 
(
E
.
2
.
1
,
 
4
,
 
.
i
n
l
 
s
t
s
m
)
)
,
 
(
h
g
r
,
 
.
i
n
r
 
(
4
,
 
[
.
r
e
f
 
q
w
g
r
,
 
.
r
e
f
 
q
s
g
r
]
)
)
,
 
(
q
w
g
r
,
 
.
i
n
l
 
(
E
.
2
.
1
,
 
6
4
,
 
.
i
n
l
 
w
d
g
r
)
)
,
 
(
q
s
g
r
,
 
.
i
n
l
 
(
E
.
2
.
1
,
 
8
,
 
.
i
n
l
 
s
t
g
r
)
)
,
 
(
h
c
o
l
,
 
.
i
n
r
 
(
6
,
 
[
.
r
e
f
 
a
c
o
l
,
 
.
i
n
t
 
X
c
o
l
.
1
]
)
)
,
 
(
a
c
o
l
,
 
.
i
n
l
 
(
E
.
2
.
1
,
 
4
0
0
,
 
.
i
n
l
 
X
c
o
l
.
2
)
)
,
 
(
h
a
n
s
,
 
.
i
n
r
 
(
6
,
 
[
.
r
e
f
 
a
a
n
s
,
 
.
i
n
t
 
X
a
n
s
.
1
]
)
)
,
 
(
a
a
n
s
,
 
.
i
n
l
 
(
E
.
2
.
1
,
 
4
3
2
,
 
.
i
n
l
 
X
a
n
s
.
2
)
)
]
 
H
_
2
7
 
:
=
 
h
P
_
2
7


 
 
 
 
r
e
p
l
a
c
e
 
h
D
_
2
7
 
:
 
v
a
_
D
 
A
 
[
(
a
o
u
t
,
 
.
i
n
l
 
(
c
L
,
 
1
,
 
.
i
n
r
 
(
.
i
n
l
 
g
g
)
)
)
,
 
(
h
,
 
.
i
n
r
 
(
1
1
,
 
[
.
r
e
f
 
h
l
k
,
 
.
r
e
f
 
h
v
,
 
.
r
e
f
 
h
t
,
 
.
r
e
f
 
h
c
o
l
,
 
.
r
e
f
 
h
a
n
s
,
 
.
i
n
t
 
c
f
o
r
,
 
.
i
n
t
 
c
b
a
c
k
,
 
.
i
n
t
 
f
i
l
t
]
)
)
,
 
(
h
t
,
 
.
i
n
r
 
(
9
,
 
[
.
r
e
f
 
h
s
m
,
 
.
r
e
f
 
h
g
r
,
 
.
r
e
f
 
h
s
r
,
 
.
r
e
f
 
h
b
l
,
 
.
r
e
f
 
h
t
e
x
t
,
 
.
r
e
f
 
h
s
u
m
]
)
)
,
 
(
h
s
m
,
 
.
i
n
r
 
(
7
,
 
[
.
r
e
f
 
q
b
s
m
,
 
.
r
e
f
 
q
s
s
m
]
)
)
,
 
(
q
b
s
m
,
 
.
i
n
l
 
(
E
.
2
.
1
,
 
1
6
,
 
.
i
n
l
 
b
k
s
m
)
)
,
 
(
q
s
s
m
,
 
.
i
n
l
 
(
E
.
2
.
1
,
 
4
,
 
.
i
n
l
 
s
t
s
m
)
)
,
 
(
h
g
r
,
 
.
i
n
r
 
(
4
,
 
[
.
r
e
f
 
q
w
g
r
,
 
.
r
e
f
 
q
s
g
r
]
)
)
,
 
(
q
w
g
r
,
 
.
i
n
l
 
(
E
.
2
.
1
,
 
6
4
,
 
.
i
n
l
 
w
d
g
r
)
)
,
 
(
q
s
g
r
,
 
.
i
n
l
 
(
E
.
2
.
1
,
 
8
,
 
.
i
n
l
 
s
t
g
r
)
)
,
 
(
h
c
o
l
,
 
.
i
n
r
 
(
6
,
 
[
.
r
e
f
 
a
c
o
l
,
 
.
i
n
t
 
X
c
o
l
.
1
]
)
)
,
 
(
a
c
o
l
,
 
.
i
n
l
 
(
E
.
2
.
1
,
 
4
0
0
,
 
.
i
n
l
 
X
c
o
l
.
2
)
)
,
 
(
h
a
n
s
,
 
.
i
n
r
 
(
6
,
 
[
.
r
e
f
 
a
a
n
s
,
 
.
i
n
t
 
X
a
n
s
.
1
]
)
)
,
 
(
a
a
n
s
,
 
.
i
n
l
 
(
E
.
2
.
1
,
 
4
3
2
,
 
.
i
n
l
 
X
a
n
s
.
2
)
)
]
 
:
=
 
h
D
_
2
7


 
 
 
 
c
l
e
a
r
 
h
P
 
h
D
 
h
S


 
 
 
 
h
a
v
e
 
c
_
2
8
 
:
 
¬
 
t
_
2
5
.
1
 
=
 
0
 
:
=
 
b
y
 
r
w
 
[
h
t
_
2
5
]
;
 
e
x
a
c
t
 
p
x
_
2
6
.
2


 
 
 
 
h
a
v
e
 
c
_
2
9
 
:
 
t
_
2
5
.
1
 
=
 
2
 
:
=
 
b
y
 
h
a
v
e
 
q
9
 
:
=
 
L
c
_
X
1
0
_
d
i
g
e
s
t
_
e
 
_
 
_
 
_
 
_
 
_
 
_
 
_
;
 
r
w
 
[
←
 
h
t
_
2
5
]
 
a
t
 
q
9
;
 
o
m
e
g
a


 
 
 
 
o
b
t
a
i
n
 
r
f
l
 
:
 
n
m
_
2
6
 
=
 
"
j
a
v
a
/
l
a
n
g
/
I
l
l
e
g
a
l
A
r
g
u
m
e
n
t
E
x
c
e
p
t
i
o
n
"
 
:
=
 
p
x
_
2
6
.
1
.
t
r
a
n
s
 
(
b
y
 
r
w
 
[
←
 
h
t
_
2
5
,
 
c
_
2
9
]
;
 
r
f
l
)


 
 
 
 
r
e
f
i
n
e
 
v
x
_
c
a
t
c
h
 
h
o
w
n
 
[
]
 
⟨
0
,
 
9
,
 
1
2
,
 
4
1
⟩
 
[
]
 
(
b
y
 
r
w
 
[
h
t
a
b
]
;
 
r
f
l
)
 
(
f
u
n
 
z
 
h
9
 
=
>
 
a
b
s
u
r
d
 
h
9
 
L
i
s
t
.
n
o
t
_
m
e
m
_
n
i
l
)
 
(
b
y
 
d
e
c
i
d
e
)
 
(
b
y
 
d
e
c
i
d
e
)
 
w
_
0
 
(
v
a
_
N
w
.
u
s
e
 
r
f
l
 
(
h
X
.
2
.
1
 
(
.
c
a
s
t
a
b
l
e
 
"
j
a
v
a
/
l
a
n
g
/
I
l
l
e
g
a
l
A
r
g
u
m
e
n
t
E
x
c
e
p
t
i
o
n
"
 
"
j
a
v
a
/
l
a
n
g
/
I
l
l
e
g
a
l
A
r
g
u
m
e
n
t
E
x
c
e
p
t
i
o
n
"
)
 
(
b
y
 
d
e
c
i
d
e
 
+
k
e
r
n
e
l
)
)
)
 
h
c
e
_
2
6
 
h
c
v
_
2
6
 
h
c
l
_
2
6
 
?
_


 
 
 
 
r
e
f
i
n
e
 
l
v
_
a
s
t
o
r
e
_
n
 
(
l
v
'
 
:
=
 
[
(
3
,
 
.
r
e
f
 
q
_
2
6
)
,
 
(
0
,
 
.
r
e
f
 
h
)
,
 
(
1
,
 
.
i
n
t
 
k
i
n
d
)
,
 
(
2
,
 
.
r
e
f
 
a
o
u
t
)
]
)
 
h
x
 
h
b
 
d
L
_
d
i
g
e
s
t
_
1
2
 
r
f
l
 
h
l
 
(
b
y
 
d
e
c
i
d
e
)
 
r
f
l
 
(
f
u
n
 
l
s
_
3
0
 
h
l
_
3
0
 
=
>
 
?
_
)


 
 
 
 
c
l
e
a
r
 
h
l


 
 
 
 
r
e
f
i
n
e
 
l
v
_
i
c
o
n
s
t
 
(
v
 
:
=
 
1
)
 
h
x
 
h
b
 
d
L
_
d
i
g
e
s
t
_
1
3
 
(
b
y
 
d
e
c
i
d
e
)
 
?
_


 
 
 
 
r
e
f
i
n
e
 
v
x
_
r
e
t
 
?
_


 
 
 
 
h
a
v
e
 
h
p
o
s
t
 
:
 
(
(
1
,
 
(
b
k
s
m
,
 
s
t
s
m
,
 
w
d
g
r
,
 
s
t
g
r
,
 
X
a
n
s
,
 
g
g
)
)
 
:
 
I
n
t
3
2
 
×
 
(
(
N
a
t
 
→
 
I
n
t
3
2
)
 
×
 
(
N
a
t
 
→
 
I
n
t
3
2
)
 
×
 
(
N
a
t
 
→
 
I
n
t
3
2
)
 
×
 
(
N
a
t
 
→
 
I
n
t
3
2
)
 
×
 
g
R
o
w
 
×
 
(
N
a
t
 
→
 
I
n
t
6
4
)
)
)
 
=
 
F
_
L
_
d
i
g
e
s
t
_
e
 
b
k
s
m
 
s
t
s
m
 
w
d
g
r
 
s
t
g
r
 
X
c
o
l
 
X
a
n
s
 
g
g
 
k
i
n
d
 
:
=
 
(
s
h
o
w
 
F
_
L
_
d
i
g
e
s
t
_
e
 
b
k
s
m
 
s
t
s
m
 
w
d
g
r
 
s
t
g
r
 
X
c
o
l
 
X
a
n
s
 
g
g
 
k
i
n
d
 
=
 
(
(
1
,
 
(
b
k
s
m
,
 
s
t
s
m
,
 
w
d
g
r
,
 
s
t
g
r
,
 
X
a
n
s
,
 
g
g
)
)
 
:
 
I
n
t
3
2
 
×
 
(
(
N
a
t
 
→
 
I
n
t
3
2
)
 
×
 
(
N
a
t
 
→
 
I
n
t
3
2
)
 
×
 
(
N
a
t
 
→
 
I
n
t
3
2
)
 
×
 
(
N
a
t
 
→
 
I
n
t
3
2
)
 
×
 
g
R
o
w
 
×
 
(
N
a
t
 
→
 
I
n
t
6
4
)
)
)
 
f
r
o
m
 
(
g
L
e
t
_
e
q
 
h
t
_
2
5
 
(
(
i
f
_
n
e
g
 
c
_
2
8
)
.
t
r
a
n
s
 
r
f
l
)
)
)
.
s
y
m
m


 
 
 
 
h
a
v
e
 
h
P
9
 
:
=
 
h
P
_
2
7
.
s
u
b
 
(
w
s
'
 
:
=
 
[
(
h
,
 
.
i
n
r
 
(
1
1
,
 
[
.
r
e
f
 
h
l
k
,
 
.
r
e
f
 
h
v
,
 
.
r
e
f
 
h
t
,
 
.
r
e
f
 
h
c
o
l
,
 
.
r
e
f
 
h
a
n
s
,
 
.
i
n
t
 
c
f
o
r
,
 
.
i
n
t
 
c
b
a
c
k
,
 
.
i
n
t
 
f
i
l
t
]
)
)
,
 
(
h
t
,
 
.
i
n
r
 
(
9
,
 
[
.
r
e
f
 
h
s
m
,
 
.
r
e
f
 
h
g
r
,
 
.
r
e
f
 
h
s
r
,
 
.
r
e
f
 
h
b
l
,
 
.
r
e
f
 
h
t
e
x
t
,
 
.
r
e
f
 
h
s
u
m
]
)
)
,
 
(
h
s
m
,
 
.
i
n
r
 
(
7
,
 
[
.
r
e
f
 
q
b
s
m
,
 
.
r
e
f
 
q
s
s
m
]
)
)
,
 
(
q
b
s
m
,
 
.
i
n
l
 
(
E
.
2
.
1
,
 
1
6
,
 
.
i
n
l
 
b
k
s
m
)
)
,
 
(
q
s
s
m
,
 
.
i
n
l
 
(
E
.
2
.
1
,
 
4
,
 
.
i
n
l
 
s
t
s
m
)
)
,
 
(
h
g
r
,
 
.
i
n
r
 
(
4
,
 
[
.
r
e
f
 
q
w
g
r
,
 
.
r
e
f
 
q
s
g
r
]
)
)
,
 
(
q
w
g
r
,
 
.
i
n
l
 
(
E
.
2
.
1
,
 
6
4
,
 
.
i
n
l
 
w
d
g
r
)
)
,
 
(
q
s
g
r
,
 
.
i
n
l
 
(
E
.
2
.
1
,
 
8
,
 
.
i
n
l
 
s
t
g
r
)
)
,
 
(
h
c
o
l
,
 
.
i
n
r
 
(
6
,
 
[
.
r
e
f
 
a
c
o
l
,
 
.
i
n
t
 
X
c
o
l
.
1
]
)
)
,
 
(
a
c
o
l
,
 
.
i
n
l
 
(
E
.
2
.
1
,
 
4
0
0
,
 
.
i
n
l
 
X
c
o
l
.
2
)
)
,
 
(
h
a
n
s
,
 
.
i
n
r
 
(
6
,
 
[
.
r
e
f
 
a
a
n
s
,
 
.
i
n
t
 
X
a
n
s
.
1
]
)
)
,
 
(
a
a
n
s
,
 
.
i
n
l
 
(
E
.
2
.
1
,
 
4
3
2
,
 
.
i
n
l
 
X
a
n
s
.
2
)
)
,
 
(
a
o
u
t
,
 
.
i
n
l
 
(
c
L
,
 
1
,
 
.
i
n
r
 
(
.
i
n
l
 
g
g
)
)
)
]
)
 
[
1
,
 
2
,
 
3
,
 
4
,
 
5
,
 
6
,
 
7
,
 
8
,
 
9
,
 
1
0
,
 
1
1
,
 
1
2
,
 
0
]
 
r
f
l


 
 
 
 
h
a
v
e
 
h
D
9
 
:
=
 
h
D
_
2
7
.
s
u
b
 
(
w
s
'
 
:
=
 
[
(
h
,
 
.
i
n
r
 
(
1
1
,
 
[
.
r
e
f
 
h
l
k
,
 
.
r
e
f
 
h
v
,
 
.
r
e
f
 
h
t
,
 
.
r
e
f
 
h
c
o
l
,
 
.
r
e
f
 
h
a
n
s
,
 
.
i
n
t
 
c
f
o
r
,
 
.
i
n
t
 
c
b
a
c
k
,
 
.
i
n
t
 
f
i
l
t
]
)
)
,
 
(
h
t
,
 
.
i
n
r
 
(
9
,
 
[
.
r
e
f
 
h
s
m
,
 
.
r
e
f
 
h
g
r
,
 
.
r
e
f
 
h
s
r
,
 
.
r
e
f
 
h
b
l
,
 
.
r
e
f
 
h
t
e
x
t
,
 
.
r
e
f
 
h
s
u
m
]
)
)
,
 
(
h
s
m
,
 
.
i
n
r
 
(
7
,
 
[
.
r
e
f
 
q
b
s
m
,
 
.
r
e
f
 
q
s
s
m
]
)
)
,
 
(
q
b
s
m
,
 
.
i
n
l
 
(
E
.
2
.
1
,
 
1
6
,
 
.
i
n
l
 
b
k
s
m
)
)
,
 
(
q
s
s
m
,
 
.
i
n
l
 
(
E
.
2
.
1
,
 
4
,
 
.
i
n
l
 
s
t
s
m
)
)
,
 
(
h
g
r
,
 
.
i
n
r
 
(
4
,
 
[
.
r
e
f
 
q
w
g
r
,
 
.
r
e
f
 
q
s
g
r
]
)
)
,
 
(
q
w
g
r
,
 
.
i
n
l
 
(
E
.
2
.
1
,
 
6
4
,
 
.
i
n
l
 
w
d
g
r
)
)
,
 
(
q
s
g
r
,
 
.
i
n
l
 
(
E
.
2
.
1
,
 
8
,
 
.
i
n
l
 
s
t
g
r
)
)
,
 
(
h
c
o
l
,
 
.
i
n
r
 
(
6
,
 
[
.
r
e
f
 
a
c
o
l
,
 
.
i
n
t
 
X
c
o
l
.
1
]
)
)
,
 
(
a
c
o
l
,
 
.
i
n
l
 
(
E
.
2
.
1
,
 
4
0
0
,
 
.
i
n
l
 
X
c
o
l
.
2
)
)
,
 
(
h
a
n
s
,
 
.
i
n
r
 
(
6
,
 
[
.
r
e
f
 
a
a
n
s
,
 
.
i
n
t
 
X
a
n
s
.
1
]
)
)
,
 
(
a
a
n
s
,
 
.
i
n
l
 
(
E
.
2
.
1
,
 
4
3
2
,
 
.
i
n
l
 
X
a
n
s
.
2
)
)
,
 
(
a
o
u
t
,
 
.
i
n
l
 
(
c
L
,
 
1
,
 
.
i
n
r
 
(
.
i
n
l
 
g
g
)
)
)
]
)
 
[
1
,
 
2
,
 
3
,
 
4
,
 
5
,
 
6
,
 
7
,
 
8
,
 
9
,
 
1
0
,
 
1
1
,
 
1
2
,
 
0
]
 
(
b
y
 
d
e
c
i
d
e
)
 
r
f
l


 
 
 
 
e
x
a
c
t
 
W
.
i
r
e
t
 
(
v
 
:
=
 
1
)
 
h
x
 
h
b
 
h
r
 
(
f
u
n
 
t
 
h
t
 
h
W
 
=
>
 
⟨
⟨
1
,
 
(
b
k
s
m
,
 
s
t
s
m
,
 
w
d
g
r
,
 
s
t
g
r
,
 
X
a
n
s
,
 
g
g
)
,
 
r
f
l
,
 
⟨
c
o
n
g
r
A
r
g
 
P
r
o
d
.
f
s
t
 
h
p
o
s
t
,
 
c
o
n
g
r
A
r
g
 
P
r
o
d
.
s
n
d
 
h
p
o
s
t
⟩
,
 
b
y
 
r
w
 
[
h
t
]
;
 
e
x
a
c
t
 
h
P
9
,
 
h
D
9
⟩
,
 
h
S
_
2
7
.
F
 
h
t
⟩
)
 
h
S
_
2
7
.
2
.
2
 
d
L
_
d
i
g
e
s
t
_
1
4


 
 
·
 
h
a
v
e
 
e
_
3
2
 
:
 
t
_
2
5
 
=
 
(
(
0
,
 
(
r
_
2
3
,
 
u
_
2
3
)
)
 
:
 
N
a
t
 
×
 
(
I
n
t
3
2
 
×
 
(
(
N
a
t
 
→
 
I
n
t
3
2
)
 
×
 
(
N
a
t
 
→
 
I
n
t
3
2
)
 
×
 
(
N
a
t
 
→
 
I
n
t
3
2
)
 
×
 
(
N
a
t
 
→
 
I
n
t
3
2
)
 
×
 
g
R
o
w
)
)
)
 
:
=
 
h
t
_
2
5
.
t
r
a
n
s
 
h
u
_
2
3
.
s
y
m
m


 
 
 
 
h
a
v
e
 
c
_
3
1
 
:
 
t
_
2
5
.
1
 
=
 
0
 
:
=
 
b
y
 
r
w
 
[
e
_
3
2
]


 
 
 
 
o
b
t
a
i
n
 
r
f
l
 
:
 
r
_
2
3
 
=
 
t
_
2
5
.
2
.
1
 
:
=
 
(
c
o
n
g
r
A
r
g
 
(
f
u
n
 
z
 
:
 
N
a
t
 
×
 
(
I
n
t
3
2
 
×
 
(
(
N
a
t
 
→
 
I
n
t
3
2
)
 
×
 
(
N
a
t
 
→
 
I
n
t
3
2
)
 
×
 
(
N
a
t
 
→
 
I
n
t
3
2
)
 
×
 
(
N
a
t
 
→
 
I
n
t
3
2
)
 
×
 
g
R
o
w
)
)
 
=
>
 
z
.
2
.
1
)
 
e
_
3
2
)
.
s
y
m
m


 
 
 
 
o
b
t
a
i
n
 
r
f
l
 
:
 
u
_
2
3
 
=
 
t
_
2
5
.
2
.
2
 
:
=
 
(
c
o
n
g
r
A
r
g
 
(
f
u
n
 
z
 
:
 
N
a
t
 
×
 
(
I
n
t
3
2
 
×
 
(
(
N
a
t
 
→
 
I
n
t
3
2
)
 
×
 
(
N
a
t
 
→
 
I
n
t
3
2
)
 
×
 
(
N
a
t
 
→
 
I
n
t
3
2
)
 
×
 
(
N
a
t
 
→
 
I
n
t
3
2
)
 
×
 
g
R
o
w
)
)
 
=
>
 
z
.
2
.
2
)
 
e
_
3
2
)
.
s
y
m
m


 
 
 
 
r
e
p
l
a
c
e
 
h
P
_
2
4
 
:
 
v
a
_
P
 
E
.
1
 
v
w
C
l
 
[
(
a
o
u
t
,
 
.
i
n
l
 
(
c
L
,
 
1
,
 
.
i
n
r
 
(
.
i
n
l
 
g
g
)
)
)
,
 
(
h
,
 
.
i
n
r
 
(
1
1
,
 
[
.
r
e
f
 
h
l
k
,
 
.
r
e
f
 
h
v
,
 
.
r
e
f
 
h
t
,
 
.
r
e
f
 
h
c
o
l
,
 
.
r
e
f
 
h
a
n
s
,
 
.
i
n
t
 
c
f
o
r
,
 
.
i
n
t
 
c
b
a
c
k
,
 
.
i
n
t
 
f
i
l
t
]
)
)
,
 
(
h
t
,
 
.
i
n
r
 
(
9
,
 
[
.
r
e
f
 
h
s
m
,
 
.
r
e
f
 
h
g
r
,
 
.
r
e
f
 
h
s
r
,
 
.
r
e
f
 
h
b
l
,
 
.
r
e
f
 
h
t
e
x
t
,
 
.
r
e
f
 
h
s
u
m
]
)
)
,
 
(
h
s
m
,
 
.
i
n
r
 
(
7
,
 
[
.
r
e
f
 
q
b
s
m
,
 
.
r
e
f
 
q
s
s
m
]
)
)
,
 
(
q
b
s
m
,
 
.
i
n
l
 
(
E
.
2
.
1
,
 
1
6
,
 
.
i
n
l
 
t
_
2
5
.
2
.
2
.
1
)
)
,
 
(
q
s
s
m
,
 
.
i
n
l
 
(
E
.
2
.
1
,
 
4
,
 
.
i
n
l
 
t
_
2
5
.
2
.
2
.
2
.
1
)
)
,
 
(
h
g
r
,
 
.
i
n
r
 
(
4
,
 
[
.
r
e
f
 
q
w
g
r
,
 
.
r
e
f
 
q
s
g
r
]
)
)
,
 
(
q
w
g
r
,
 
.
i
n
l
 
(
E
.
2
.
1
,
 
6
4
,
 
.
i
n
l
 
t
_
2
5
.
2
.
2
.
2
.
2
.
1
)
)
,
 
(
q
s
g
r
,
 
.
i
n
l
 
(
E
.
2
.
1
,
 
8
,
 
.
i
n
l
 
t
_
2
5
.
2
.
2
.
2
.
2
.
2
.
1
)
)
,
 
(
h
c
o
l
,
 
.
i
n
r
 
(
6
,
 
[
.
r
e
f
 
a
c
o
l
,
 
.
i
n
t
 
X
c
o
l
.
1
]
)
)
,
 
(
a
c
o
l
,
 
.
i
n
l
 
(
E
.
2
.
1
,
 
4
0
0
,
 
.
i
n
l
 
X
c
o
l
.
2
)
)
,
 
(
h
a
n
s
,
 
.
i
n
r
 
(
6
,
 
[
.
r
e
f
 
a
a
n
s
,
 
.
i
n
t
 
t
_
2
5
.
2
.
2
.
2
.
2
.
2
.
2
.
1
]
)
)
,
 
(
a
a
n
s
,
 
.
i
n
l
 
(
E
.
2
.
1
,
 
4
3
2
,
 
.
i
n
l
 
t
_
2
5
.
2
.
2
.
2
.
2
.
2
.
2
.
2
)
)
]
 
H
_
2
4
 
:
=
 
h
P
_
2
4


 
 
 
 
r
e
p
l
a
c
e
 
h
D
_
2
4
 
:
 
v
a
_
D
 
A
 
[
(
a
o
u
t
,
 
.
i
n
l
 
(
c
L
,
 
1
,
 
.
i
n
r
 
(
.
i
n
l
 
g
g
)
)
)
,
 
(
h
,
 
.
i
n
r
 
(
1
1
,
 
[
.
r
e
f
 
h
l
k
,
 
.
r
e
f
 
h
v
,
 
.
r
e
f
 
h
t
,
 
.
r
e
f
 
h
c
o
l
,
 
.
r
e
f
 
h
a
n
s
,
 
.
i
n
t
 
c
f
o
r
,
 
.
i
n
t
 
c
b
a
c
k
,
 
.
i
n
t
 
f
i
l
t
]
)
)
,
 
(
h
t
,
 
.
i
n
r
 
(
9
,
 
[
.
r
e
f
 
h
s
m
,
 
.
r
e
f
 
h
g
r
,
 
.
r
e
f
 
h
s
r
,
 
.
r
e
f
 
h
b
l
,
 
.
r
e
f
 
h
t
e
x
t
,
 
.
r
e
f
 
h
s
u
m
]
)
)
,
 
(
h
s
m
,
 
.
i
n
r
 
(
7
,
 
[
.
r
e
f
 
q
b
s
m
,
 
.
r
e
f
 
q
s
s
m
]
)
)
,
 
(
q
b
s
m
,
 
.
i
n
l
 
(
E
.
2
.
1
,
 
1
6
,
 
.
i
n
l
 
t
_
2
5
.
2
.
2
.
1
)
)
,
 
(
q
s
s
m
,
 
.
i
n
l
 
(
E
.
2
.
1
,
 
4
,
 
.
i
n
l
 
t
_
2
5
.
2
.
2
.
2
.
1
)
)
,
 
(
h
g
r
,
 
.
i
n
r
 
(
4
,
 
[
.
r
e
f
 
q
w
g
r
,
 
.
r
e
f
 
q
s
g
r
]
)
)
,
 
(
q
w
g
r
,
 
.
i
n
l
 
(
E
.
2
.
1
,
 
6
4
,
 
.
i
n
l
 
t
_
2
5
.
2
.
2
.
2
.
2
.
1
)
)
,
 
(
q
s
g
r
,
 
.
i
n
l
 
(
E
.
2
.
1
,
 
8
,
 
.
i
n
l
 
t
_
2
5
.
2
.
2
.
2
.
2
.
2
.
1
)
)
,
 
(
h
c
o
l
,
 
.
i
n
r
 
(
6
,
 
[
.
r
e
f
 
a
c
o
l
,
 
.
i
n
t
 
X
c
o
l
.
1
]
)
)
,
 
(
a
c
o
l
,
 
.
i
n
l
 
(
E
.
2
.
1
,
 
4
0
0
,
 
.
i
n
l
 
X
c
o
l
.
2
)
)
,
 
(
h
a
n
s
,
 
.
i
n
r
 
(
6
,
 
[
.
r
e
f
 
a
a
n
s
,
 
.
i
n
t
 
t
_
2
5
.
2
.
2
.
2
.
2
.
2
.
2
.
1
]
)
)
,
 
(
a
a
n
s
,
 
.
i
n
l
 
(
E
.
2
.
1
,
 
4
3
2
,
 
.
i
n
l
 
t
_
2
5
.
2
.
2
.
2
.
2
.
2
.
2
.
2
)
)
]
 
:
=
 
h
D
_
2
4


 
 
 
 
c
l
e
a
r
 
h
P
 
h
D
 
h
S


 
 
 
 
r
e
f
i
n
e
 
l
v
_
i
2
l
 
(
v
 
:
=
 
t
_
2
5
.
2
.
1
.
t
o
I
n
t
6
4
)
 
h
x
 
h
b
 
d
L
_
d
i
g
e
s
t
_
7
 
r
f
l
 
?
_


 
 
 
 
r
e
f
i
n
e
 
v
a
_
l
a
s
t
 
h
x
 
h
b
 
h
L
 
h
P
_
2
4
 
h
D
_
2
4
 
h
S
_
2
4
 
0
 
2
 
r
f
l
 
r
f
l
 
(
b
y
 
d
e
c
i
d
e
)
 
d
L
_
d
i
g
e
s
t
_
8
 
(
f
u
n
 
H
_
3
3
 
l
o
c
s
_
3
3
 
h
P
_
3
3
 
h
D
_
3
3
 
h
S
_
3
3
 
=
>
 
?
_
)


 
 
 
 
r
e
p
l
a
c
e
 
h
P
_
3
3
 
:
 
v
a
_
P
 
E
.
1
 
v
w
C
l
 
[
(
a
o
u
t
,
 
.
i
n
l
 
(
c
L
,
 
1
,
 
.
i
n
r
 
(
.
i
n
l
 
(
v
p
_
u
p
d
L
 
g
g
 
(
0
 
:
 
I
n
t
3
2
)
.
t
o
N
a
t
C
l
a
m
p
N
e
g
 
(
t
_
2
5
.
2
.
1
.
t
o
I
n
t
6
4
)
)
)
)
)
,
 
(
h
,
 
.
i
n
r
 
(
1
1
,
 
[
.
r
e
f
 
h
l
k
,
 
.
r
e
f
 
h
v
,
 
.
r
e
f
 
h
t
,
 
.
r
e
f
 
h
c
o
l
,
 
.
r
e
f
 
h
a
n
s
,
 
.
i
n
t
 
c
f
o
r
,
 
.
i
n
t
 
c
b
a
c
k
,
 
.
i
n
t
 
f
i
l
t
]
)
)
,
 
(
h
t
,
 
.
i
n
r
 
(
9
,
 
[
.
r
e
f
 
h
s
m
,
 
.
r
e
f
 
h
g
r
,
 
.
r
e
f
 
h
s
r
,
 
.
r
e
f
 
h
b
l
,
 
.
r
e
f
 
h
t
e
x
t
,
 
.
r
e
f
 
h
s
u
m
]
)
)
,
 
(
h
s
m
,
 
.
i
n
r
 
(
7
,
 
[
.
r
e
f
 
q
b
s
m
,
 
.
r
e
f
 
q
s
s
m
]
)
)
,
 
(
q
b
s
m
,
 
.
i
n
l
 
(
E
.
2
.
1
,
 
1
6
,
 
.
i
n
l
 
t
_
2
5
.
2
.
2
.
1
)
)
,
 
(
q
s
s
m
,
 
.
i
n
l
 
(
E
.
2
.
1
,
 
4
,
 
.
i
n
l
 
t
_
2
5
.
2
.
2
.
2
.
1
)
)
,
 
(
h
g
r
,
 
.
i
n
r
 
(
4
,
 
[
.
r
e
f
 
q
w
g
r
,
 
.
r
e
f
 
q
s
g
r
]
)
)
,
 
(
q
w
g
r
,
 
.
i
n
l
 
(
E
.
2
.
1
,
 
6
4
,
 
.
i
n
l
 
t
_
2
5
.
2
.
2
.
2
.
2
.
1
)
)
,
 
(
q
s
g
r
,
 
.
i
n
l
 
(
E
.
2
.
1
,
 
8
,
 
.
i
n
l
 
t
_
2
5
.
2
.
2
.
2
.
2
.
2
.
1
)
)
,
 
(
h
c
o
l
,
 
.
i
n
r
 
(
6
,
 
[
.
r
e
f
 
a
c
o
l
,
 
.
i
n
t
 
X
c
o
l
.
1
]
)
)
,
 
(
a
c
o
l
,
 
.
i
n
l
 
(
E
.
2
.
1
,
 
4
0
0
,
 
.
i
n
l
 
X
c
o
l
.
2
)
)
,
 
(
h
a
n
s
,
 
.
i
n
r
 
(
6
,
 
[
.
r
e
f
 
a
a
n
s
,
 
.
i
n
t
 
t
_
2
5
.
2
.
2
.
2
.
2
.
2
.
2
.
1
]
)
)
,
 
(
a
a
n
s
,
 
.
i
n
l
 
(
E
.
2
.
1
,
 
4
3
2
,
 
.
i
n
l
 
t
_
2
5
.
2
.
2
.
2
.
2
.
2
.
2
.
2
)
)
]
 
H
_
3
3
 
:
=
 
h
P
_
3
3


 
 
 
 
r
e
p
l
a
c
e
 
h
D
_
3
3
 
:
 
v
a
_
D
 
A
 
[
(
a
o
u
t
,
 
.
i
n
l
 
(
c
L
,
 
1
,
 
.
i
n
r
 
(
.
i
n
l
 
(
v
p
_
u
p
d
L
 
g
g
 
(
0
 
:
 
I
n
t
3
2
)
.
t
o
N
a
t
C
l
a
m
p
N
e
g
 
(
t
_
2
5
.
2
.
1
.
t
o
I
n
t
6
4
)
)
)
)
)
,
 
(
h
,
 
.
i
n
r
 
(
1
1
,
 
[
.
r
e
f
 
h
l
k
,
 
.
r
e
f
 
h
v
,
 
.
r
e
f
 
h
t
,
 
.
r
e
f
 
h
c
o
l
,
 
.
r
e
f
 
h
a
n
s
,
 
.
i
n
t
 
c
f
o
r
,
 
.
i
n
t
 
c
b
a
c
k
,
 
.
i
n
t
 
f
i
l
t
]
)
)
,
 
(
h
t
,
 
.
i
n
r
 
(
9
,
 
[
.
r
e
f
 
h
s
m
,
 
.
r
e
f
 
h
g
r
,
 
.
r
e
f
 
h
s
r
,
 
.
r
e
f
 
h
b
l
,
 
.
r
e
f
 
h
t
e
x
t
,
 
.
r
e
f
 
h
s
u
m
]
)
)
,
 
(
h
s
m
,
 
.
i
n
r
 
(
7
,
 
[
.
r
e
f
 
q
b
s
m
,
 
.
r
e
f
 
q
s
s
m
]
)
)
,
 
(
q
b
s
m
,
 
.
i
n
l
 
(
E
.
2
.
1
,
 
1
6
,
 
.
i
n
l
 
t
_
2
5
.
2
.
2
.
1
)
)
,
 
(
q
s
s
m
,
 
.
i
n
l
 
(
E
.
2
.
1
,
 
4
,
 
.
i
n
l
 
t
_
2
5
.
2
.
2
.
2
.
1
)
)
,
 
(
h
g
r
,
 
.
i
n
r
 
(
4
,
 
[
.
r
e
f
 
q
w
g
r
,
 
.
r
e
f
 
q
s
g
r
]
)
)
,
 
(
q
w
g
r
,
 
.
i
n
l
 
(
E
.
2
.
1
,
 
6
4
,
 
.
i
n
l
 
t
_
2
5
.
2
.
2
.
2
.
2
.
1
)
)
,
 
(
q
s
g
r
,
 
.
i
n
l
 
(
E
.
2
.
1
,
 
8
,
 
.
i
n
l
 
t
_
2
5
.
2
.
2
.
2
.
2
.
2
.
1
)
)
,
 
(
h
c
o
l
,
 
.
i
n
r
 
(
6
,
 
[
.
r
e
f
 
a
c
o
l
,
 
.
i
n
t
 
X
c
o
l
.
1
]
)
)
,
 
(
a
c
o
l
,
 
.
i
n
l
 
(
E
.
2
.
1
,
 
4
0
0
,
 
.
i
n
l
 
X
c
o
l
.
2
)
)
,
 
(
h
a
n
s
,
 
.
i
n
r
 
(
6
,
 
[
.
r
e
f
 
a
a
n
s
,
 
.
i
n
t
 
t
_
2
5
.
2
.
2
.
2
.
2
.
2
.
2
.
1
]
)
)
,
 
(
a
a
n
s
,
 
.
i
n
l
 
(
E
.
2
.
1
,
 
4
3
2
,
 
.
i
n
l
 
t
_
2
5
.
2
.
2
.
2
.
2
.
2
.
2
.
2
)
)
]
 
:
=
 
h
D
_
3
3


 
 
 
 
c
l
e
a
r
 
h
P
_
2
4
 
h
D
_
2
4
 
h
S
_
2
4


 
 
 
 
r
e
f
i
n
e
 
l
v
_
g
o
t
o
 
(
t
g
t
 
:
=
 
1
5
)
 
h
x
 
h
b
 
d
L
_
d
i
g
e
s
t
_
9
 
(
b
y
 
d
e
c
i
d
e
)
 
?
_


 
 
 
 
r
e
f
i
n
e
 
l
v
_
i
c
o
n
s
t
 
(
v
 
:
=
 
0
)
 
h
x
 
h
b
 
d
L
_
d
i
g
e
s
t
_
1
5
 
(
b
y
 
d
e
c
i
d
e
)
 
?
_


 
 
 
 
r
e
f
i
n
e
 
v
x
_
r
e
t
 
?
_


 
 
 
 
h
a
v
e
 
h
p
o
s
t
 
:
 
(
(
0
,
 
(
t
_
2
5
.
2
.
2
.
1
,
 
t
_
2
5
.
2
.
2
.
2
.
1
,
 
t
_
2
5
.
2
.
2
.
2
.
2
.
1
,
 
t
_
2
5
.
2
.
2
.
2
.
2
.
2
.
1
,
 
t
_
2
5
.
2
.
2
.
2
.
2
.
2
.
2
,
 
(
v
p
_
u
p
d
L
 
g
g
 
(
0
 
:
 
I
n
t
3
2
)
.
t
o
N
a
t
C
l
a
m
p
N
e
g
 
(
t
_
2
5
.
2
.
1
.
t
o
I
n
t
6
4
)
)
)
)
 
:
 
I
n
t
3
2
 
×
 
(
(
N
a
t
 
→
 
I
n
t
3
2
)
 
×
 
(
N
a
t
 
→
 
I
n
t
3
2
)
 
×
 
(
N
a
t
 
→
 
I
n
t
3
2
)
 
×
 
(
N
a
t
 
→
 
I
n
t
3
2
)
 
×
 
g
R
o
w
 
×
 
(
N
a
t
 
→
 
I
n
t
6
4
)
)
)
 
=
 
F
_
L
_
d
i
g
e
s
t
_
e
 
b
k
s
m
 
s
t
s
m
 
w
d
g
r
 
s
t
g
r
 
X
c
o
l
 
X
a
n
s
 
g
g
 
k
i
n
d
 
:
=
 
(
s
h
o
w
 
F
_
L
_
d
i
g
e
s
t
_
e
 
b
k
s
m
 
s
t
s
m
 
w
d
g
r
 
s
t
g
r
 
X
c
o
l
 
X
a
n
s
 
g
g
 
k
i
n
d
 
=
 
(
(
0
,
 
(
t
_
2
5
.
2
.
2
.
1
,
 
t
_
2
5
.
2
.
2
.
2
.
1
,
 
t
_
2
5
.
2
.
2
.
2
.
2
.
1
,
 
t
_
2
5
.
2
.
2
.
2
.
2
.
2
.
1
,
 
t
_
2
5
.
2
.
2
.
2
.
2
.
2
.
2
,
 
(
v
p
_
u
p
d
L
 
g
g
 
(
0
 
:
 
I
n
t
3
2
)
.
t
o
N
a
t
C
l
a
m
p
N
e
g
 
(
t
_
2
5
.
2
.
1
.
t
o
I
n
t
6
4
)
)
)
)
 
:
 
I
n
t
3
2
 
×
 
(
(
N
a
t
 
→
 
I
n
t
3
2
)
 
×
 
(
N
a
t
 
→
 
I
n
t
3
2
)
 
×
 
(
N
a
t
 
→
 
I
n
t
3
2
)
 
×
 
(
N
a
t
 
→
 
I
n
t
3
2
)
 
×
 
g
R
o
w
 
×
 
(
N
a
t
 
→
 
I
n
t
6
4
)
)
)
 
f
r
o
m
 
(
g
L
e
t
_
e
q
 
h
t
_
2
5
 
(
(
i
f
_
p
o
s
 
c
_
3
1
)
.
t
r
a
n
s
 
r
f
l
)
)
)
.
s
y
m
m


 
 
 
 
h
a
v
e
 
h
P
9
 
:
=
 
h
P
_
3
3
.
s
u
b
 
(
w
s
'
 
:
=
 
[
(
h
,
 
.
i
n
r
 
(
1
1
,
 
[
.
r
e
f
 
h
l
k
,
 
.
r
e
f
 
h
v
,
 
.
r
e
f
 
h
t
,
 
.
r
e
f
 
h
c
o
l
,
 
.
r
e
f
 
h
a
n
s
,
 
.
i
n
t
 
c
f
o
r
,
 
.
i
n
t
 
c
b
a
c
k
,
 
.
i
n
t
 
f
i
l
t
]
)
)
,
 
(
h
t
,
 
.
i
n
r
 
(
9
,
 
[
.
r
e
f
 
h
s
m
,
 
.
r
e
f
 
h
g
r
,
 
.
r
e
f
 
h
s
r
,
 
.
r
e
f
 
h
b
l
,
 
.
r
e
f
 
h
t
e
x
t
,
 
.
r
e
f
 
h
s
u
m
]
)
)
,
 
(
h
s
m
,
 
.
i
n
r
 
(
7
,
 
[
.
r
e
f
 
q
b
s
m
,
 
.
r
e
f
 
q
s
s
m
]
)
)
,
 
(
q
b
s
m
,
 
.
i
n
l
 
(
E
.
2
.
1
,
 
1
6
,
 
.
i
n
l
 
t
_
2
5
.
2
.
2
.
1
)
)
,
 
(
q
s
s
m
,
 
.
i
n
l
 
(
E
.
2
.
1
,
 
4
,
 
.
i
n
l
 
t
_
2
5
.
2
.
2
.
2
.
1
)
)
,
 
(
h
g
r
,
 
.
i
n
r
 
(
4
,
 
[
.
r
e
f
 
q
w
g
r
,
 
.
r
e
f
 
q
s
g
r
]
)
)
,
 
(
q
w
g
r
,
 
.
i
n
l
 
(
E
.
2
.
1
,
 
6
4
,
 
.
i
n
l
 
t
_
2
5
.
2
.
2
.
2
.
2
.
1
)
)
,
 
(
q
s
g
r
,
 
.
i
n
l
 
(
E
.
2
.
1
,
 
8
,
 
.
i
n
l
 
t
_
2
5
.
2
.
2
.
2
.
2
.
2
.
1
)
)
,
 
(
h
c
o
l
,
 
.
i
n
r
 
(
6
,
 
[
.
r
e
f
 
a
c
o
l
,
 
.
i
n
t
 
X
c
o
l
.
1
]
)
)
,
 
(
a
c
o
l
,
 
.
i
n
l
 
(
E
.
2
.
1
,
 
4
0
0
,
 
.
i
n
l
 
X
c
o
l
.
2
)
)
,
 
(
h
a
n
s
,
 
.
i
n
r
 
(
6
,
 
[
.
r
e
f
 
a
a
n
s
,
 
.
i
n
t
 
t
_
2
5
.
2
.
2
.
2
.
2
.
2
.
2
.
1
]
)
)
,
 
(
a
a
n
s
,
 
.
i
n
l
 
(
E
.
2
.
1
,
 
4
3
2
,
 
.
i
n
l
 
t
_
2
5
.
2
.
2
.
2
.
2
.
2
.
2
.
2
)
)
,
 
(
a
o
u
t
,
 
.
i
n
l
 
(
c
L
,
 
1
,
 
.
i
n
r
 
(
.
i
n
l
 
(
v
p
_
u
p
d
L
 
g
g
 
(
0
 
:
 
I
n
t
3
2
)
.
t
o
N
a
t
C
l
a
m
p
N
e
g
 
(
t
_
2
5
.
2
.
1
.
t
o
I
n
t
6
4
)
)
)
)
)
]
)
 
[
1
,
 
2
,
 
3
,
 
4
,
 
5
,
 
6
,
 
7
,
 
8
,
 
9
,
 
1
0
,
 
1
1
,
 
1
2
,
 
0
]
 
r
f
l


 
 
 
 
h
a
v
e
 
h
D
9
 
:
=
 
h
D
_
3
3
.
s
u
b
 
(
w
s
'
 
:
=
 
[
(
h
,
 
.
i
n
r
 
(
1
1
,
 
[
.
r
e
f
 
h
l
k
,
 
.
r
e
f
 
h
v
,
 
.
r
e
f
 
h
t
,
 
.
r
e
f
 
h
c
o
l
,
 
.
r
e
f
 
h
a
n
s
,
 
.
i
n
t
 
c
f
o
r
,
 
.
i
n
t
 
c
b
a
c
k
,
 
.
i
n
t
 
f
i
l
t
]
)
)
,
 
(
h
t
,
 
.
i
n
r
 
(
9
,
 
[
.
r
e
f
 
h
s
m
,
 
.
r
e
f
 
h
g
r
,
 
.
r
e
f
 
h
s
r
,
 
.
r
e
f
 
h
b
l
,
 
.
r
e
f
 
h
t
e
x
t
,
 
.
r
e
f
 
h
s
u
m
]
)
)
,
 
(
h
s
m
,
 
.
i
n
r
 
(
7
,
 
[
.
r
e
f
 
q
b
s
m
,
 
.
r
e
f
 
q
s
s
m
]
)
)
,
 
(
q
b
s
m
,
 
.
i
n
l
 
(
E
.
2
.
1
,
 
1
6
,
 
.
i
n
l
 
t
_
2
5
.
2
.
2
.
1
)
)
,
 
(
q
s
s
m
,
 
.
i
n
l
 
(
E
.
2
.
1
,
 
4
,
 
.
i
n
l
 
t
_
2
5
.
2
.
2
.
2
.
1
)
)
,
 
(
h
g
r
,
 
.
i
n
r
 
(
4
,
 
[
.
r
e
f
 
q
w
g
r
,
 
.
r
e
f
 
q
s
g
r
]
)
)
,
 
(
q
w
g
r
,
 
.
i
n
l
 
(
E
.
2
.
1
,
 
6
4
,
 
.
i
n
l
 
t
_
2
5
.
2
.
2
.
2
.
2
.
1
)
)
,
 
(
q
s
g
r
,
 
.
i
n
l
 
(
E
.
2
.
1
,
 
8
,
 
.
i
n
l
 
t
_
2
5
.
2
.
2
.
2
.
2
.
2
.
1
)
)
,
 
(
h
c
o
l
,
 
.
i
n
r
 
(
6
,
 
[
.
r
e
f
 
a
c
o
l
,
 
.
i
n
t
 
X
c
o
l
.
1
]
)
)
,
 
(
a
c
o
l
,
 
.
i
n
l
 
(
E
.
2
.
1
,
 
4
0
0
,
 
.
i
n
l
 
X
c
o
l
.
2
)
)
,
 
(
h
a
n
s
,
 
.
i
n
r
 
(
6
,
 
[
.
r
e
f
 
a
a
n
s
,
 
.
i
n
t
 
t
_
2
5
.
2
.
2
.
2
.
2
.
2
.
2
.
1
]
)
)
,
 
(
a
a
n
s
,
 
.
i
n
l
 
(
E
.
2
.
1
,
 
4
3
2
,
 
.
i
n
l
 
t
_
2
5
.
2
.
2
.
2
.
2
.
2
.
2
.
2
)
)
,
 
(
a
o
u
t
,
 
.
i
n
l
 
(
c
L
,
 
1
,
 
.
i
n
r
 
(
.
i
n
l
 
(
v
p
_
u
p
d
L
 
g
g
 
(
0
 
:
 
I
n
t
3
2
)
.
t
o
N
a
t
C
l
a
m
p
N
e
g
 
(
t
_
2
5
.
2
.
1
.
t
o
I
n
t
6
4
)
)
)
)
)
]
)
 
[
1
,
 
2
,
 
3
,
 
4
,
 
5
,
 
6
,
 
7
,
 
8
,
 
9
,
 
1
0
,
 
1
1
,
 
1
2
,
 
0
]
 
(
b
y
 
d
e
c
i
d
e
)
 
r
f
l


 
 
 
 
e
x
a
c
t
 
W
.
i
r
e
t
 
(
v
 
:
=
 
0
)
 
h
x
 
h
b
 
h
r
 
(
f
u
n
 
t
 
h
t
 
h
W
 
=
>
 
⟨
⟨
0
,
 
(
t
_
2
5
.
2
.
2
.
1
,
 
t
_
2
5
.
2
.
2
.
2
.
1
,
 
t
_
2
5
.
2
.
2
.
2
.
2
.
1
,
 
t
_
2
5
.
2
.
2
.
2
.
2
.
2
.
1
,
 
t
_
2
5
.
2
.
2
.
2
.
2
.
2
.
2
,
 
(
v
p
_
u
p
d
L
 
g
g
 
(
0
 
:
 
I
n
t
3
2
)
.
t
o
N
a
t
C
l
a
m
p
N
e
g
 
(
t
_
2
5
.
2
.
1
.
t
o
I
n
t
6
4
)
)
)
,
 
r
f
l
,
 
⟨
c
o
n
g
r
A
r
g
 
P
r
o
d
.
f
s
t
 
h
p
o
s
t
,
 
c
o
n
g
r
A
r
g
 
P
r
o
d
.
s
n
d
 
h
p
o
s
t
⟩
,
 
b
y
 
r
w
 
[
h
t
]
;
 
e
x
a
c
t
 
h
P
9
,
 
h
D
9
⟩
,
 
h
S
_
3
3
.
F
 
h
t
⟩
)
 
h
S
_
3
3
.
2
.
2
 
d
L
_
d
i
g
e
s
t
_
1
6


s
e
t
_
o
p
t
i
o
n
 
m
a
x
H
e
a
r
t
b
e
a
t
s
 
4
0
0
0
0
0
0
 
i
n


s
e
t
_
o
p
t
i
o
n
 
m
a
x
R
e
c
D
e
p
t
h
 
1
0
0
0
0
0
 
i
n


t
h
e
o
r
e
m
 
k
_
L
_
t
o
l
d
_
e
 
(
E
 
:
 
g
E
)
 
(
s
a
 
:
 
N
a
t
 
→
 
N
a
t
)
 
(
c
L
 
:
 
C
l
a
s
s
I
d
)
 
(
l
 
:
 
L
a
u
n
c
h
)
 
(
h
s
t
 
:
 
l
.
s
t
a
c
k
T
r
a
c
e
s
 
=
 
f
a
l
s
e
)
 
(
h
 
a
o
u
t
 
h
l
k
 
h
v
 
h
t
 
h
c
o
l
 
h
a
n
s
 
h
p
a
d
 
h
c
h
k
 
h
u
s
e
r
 
h
o
w
n
e
r
 
h
t
r
i
e
d
 
h
i
d
e
n
t
 
h
t
a
p
e
 
h
s
e
c
r
e
t
 
q
e
n
t
 
h
n
o
e
 
a
t
a
p
e
 
a
c
o
l
 
a
a
n
s
 
:
 
N
a
t
)
 
(
r
v
 
:
 
N
a
t
)
 
(
c
f
o
r
 
:
 
I
n
t
3
2
)
 
(
c
b
a
c
k
 
:
 
I
n
t
3
2
)
 
(
f
i
l
t
 
:
 
I
n
t
3
2
)
 
(
g
i
v
e
n
 
:
 
I
n
t
3
2
)
 
(
p
e
r
m
 
:
 
I
n
t
3
2
)
 
(
p
l
a
i
n
 
:
 
I
n
t
3
2
)
 
(
X
t
a
p
e
 
:
 
g
R
o
w
)
 
(
X
c
o
l
 
:
 
g
R
o
w
)
 
(
X
a
n
s
 
:
 
g
R
o
w
)
 
(
g
g
 
:
 
N
a
t
 
→
 
I
n
t
6
4
)
 
(
v
i
 
:
 
I
n
t
3
2
)
 
:
 
g
H
i
 
E
 
s
a
 
c
L
 
l
 
y
L
_
t
o
l
d
 
w
s
L
_
t
o
l
d
 
(
{
 
f
r
a
m
e
s
 
:
=
 
7
,
 
c
e
l
l
s
 
:
=
 
1
,
 
s
l
o
t
s
 
:
=
 
6
,
 
l
o
c
a
l
s
 
:
=
 
1
0
3
 
}
)
 
1
 
6
 
[
.
r
e
f
 
h
,
 
.
i
n
t
 
v
i
,
 
.
r
e
f
 
a
o
u
t
]
 
[
(
h
,
 
.
i
n
r
 
(
1
1
,
 
[
.
r
e
f
 
h
l
k
,
 
.
r
e
f
 
h
v
,
 
.
r
e
f
 
h
t
,
 
.
r
e
f
 
h
c
o
l
,
 
.
r
e
f
 
h
a
n
s
,
 
.
i
n
t
 
c
f
o
r
,
 
.
i
n
t
 
c
b
a
c
k
,
 
.
i
n
t
 
f
i
l
t
]
)
)
,
 
(
h
l
k
,
 
.
i
n
r
 
(
3
,
 
[
.
r
e
f
 
h
v
,
 
.
r
e
f
 
h
t
,
 
.
r
e
f
 
h
p
a
d
,
 
.
r
e
f
 
h
c
h
k
]
)
)
,
 
(
h
v
,
 
.
i
n
r
 
(
1
0
,
 
[
.
i
n
t
 
(
n
I
 
r
v
)
,
 
.
r
e
f
 
h
u
s
e
r
,
 
.
r
e
f
 
h
o
w
n
e
r
,
 
.
r
e
f
 
h
t
r
i
e
d
,
 
.
r
e
f
 
h
i
d
e
n
t
,
 
.
r
e
f
 
h
t
a
p
e
,
 
.
i
n
t
 
g
i
v
e
n
,
 
.
r
e
f
 
h
s
e
c
r
e
t
,
 
.
r
e
f
 
q
e
n
t
,
 
.
r
e
f
 
h
n
o
e
,
 
.
i
n
t
 
p
e
r
m
,
 
.
i
n
t
 
p
l
a
i
n
]
)
)
,
 
(
h
t
a
p
e
,
 
.
i
n
r
 
(
6
,
 
[
.
r
e
f
 
a
t
a
p
e
,
 
.
i
n
t
 
X
t
a
p
e
.
1
]
)
)
,
 
(
h
c
o
l
,
 
.
i
n
r
 
(
6
,
 
[
.
r
e
f
 
a
c
o
l
,
 
.
i
n
t
 
X
c
o
l
.
1
]
)
)
,
 
(
h
a
n
s
,
 
.
i
n
r
 
(
6
,
 
[
.
r
e
f
 
a
a
n
s
,
 
.
i
n
t
 
X
a
n
s
.
1
]
)
)
,
 
(
a
o
u
t
,
 
.
i
n
l
 
(
c
L
,
 
1
,
 
.
i
n
r
 
(
.
i
n
l
 
g
g
)
)
)
]
 
(
f
u
n
 
(
r
r
 
:
 
I
n
t
3
2
)
 
(
u
u
 
:
 
N
a
t
 
→
 
I
n
t
6
4
)
 
=
>
 
r
r
 
=
 
(
F
_
L
_
t
o
l
d
_
e
 
g
i
v
e
n
 
p
e
r
m
 
X
t
a
p
e
 
X
c
o
l
 
X
a
n
s
 
g
g
 
v
i
)
.
1
 
∧
 
u
u
 
=
 
(
F
_
L
_
t
o
l
d
_
e
 
g
i
v
e
n
 
p
e
r
m
 
X
t
a
p
e
 
X
c
o
l
 
X
a
n
s
 
g
g
 
v
i
)
.
2
)
 
(
f
u
n
 
(
u
u
 
:
 
N
a
t
 
→
 
I
n
t
6
4
)
 
=
>
 
[
(
h
,
 
.
i
n
r
 
(
1
1
,
 
[
.
r
e
f
 
h
l
k
,
 
.
r
e
f
 
h
v
,
 
.
r
e
f
 
h
t
,
 
.
r
e
f
 
h
c
o
l
,
 
.
r
e
f
 
h
a
n
s
,
 
.
i
n
t
 
c
f
o
r
,
 
.
i
n
t
 
c
b
a
c
k
,
 
.
i
n
t
 
f
i
l
t
]
)
)
,
 
(
h
l
k
,
 
.
i
n
r
 
(
3
,
 
[
.
r
e
f
 
h
v
,
 
.
r
e
f
 
h
t
,
 
.
r
e
f
 
h
p
a
d
,
 
.
r
e
f
 
h
c
h
k
]
)
)
,
 
(
h
v
,
 
.
i
n
r
 
(
1
0
,
 
[
.
i
n
t
 
(
n
I
 
r
v
)
,
 
.
r
e
f
 
h
u
s
e
r
,
 
.
r
e
f
 
h
o
w
n
e
r
,
 
.
r
e
f
 
h
t
r
i
e
d
,
 
.
r
e
f
 
h
i
d
e
n
t
,
 
.
r
e
f
 
h
t
a
p
e
,
 
.
i
n
t
 
g
i
v
e
n
,
 
.
r
e
f
 
h
s
e
c
r
e
t
,
 
.
r
e
f
 
q
e
n
t
,
 
.
r
e
f
 
h
n
o
e
,
 
.
i
n
t
 
p
e
r
m
,
 
.
i
n
t
 
p
l
a
i
n
]
)
)
,
 
(
h
t
a
p
e
,
 
.
i
n
r
 
(
6
,
 
[
.
r
e
f
 
a
t
a
p
e
,
 
.
i
n
t
 
X
t
a
p
e
.
1
]
)
)
,
 
(
h
c
o
l
,
 
.
i
n
r
 
(
6
,
 
[
.
r
e
f
 
a
c
o
l
,
 
.
i
n
t
 
X
c
o
l
.
1
]
)
)
,
 
(
h
a
n
s
,
 
.
i
n
r
 
(
6
,
 
[
.
r
e
f
 
a
a
n
s
,
 
.
i
n
t
 
X
a
n
s
.
1
]
)
)
,
 
(
a
o
u
t
,
 
.
i
n
l
 
(
c
L
,
 
1
,
 
.
i
n
r
 
(
.
i
n
l
 
u
u
)
)
)
]
)
 
:
=
 
b
y


 
 
i
n
t
r
o
 
s
z


 
 
r
e
f
i
n
e
 
v
x
_
o
f
W
H
 
(
h
h
 
:
=
 
[
(
0
,
 
9
,
 
1
2
,
 
3
2
)
]
)
 
(
c
c
 
:
=
 
c
L
_
t
o
l
d
)
 
(
m
a
x
L
 
:
=
 
4
)
 
(
r
e
t
 
:
=
 
(
s
o
m
e
 
.
i
n
t
)
)
 
(
b
y
 
d
e
c
i
d
e
)
 
r
f
l
 
?
_


 
 
i
n
t
r
o
 
p
 
e
 
s
 
m
 
a
r
g
s
 
b
e
l
o
w
 
m
e
t
h
 
c
 
s
₁
 
B
 
h
m
l
 
h
v


 
 
o
b
t
a
i
n
 
⟨
r
f
l
,
 
h
s
z
,
 
h
P
,
 
⟨
h
V
,
 
h
X
,
 
h
L
⟩
,
 
h
D
0
⟩
 
:
=
 
h
v


 
 
h
a
v
e
 
h
x
 
:
=
 
B
.
e
x
e
c


 
 
h
a
v
e
 
h
b
 
:
=
 
B
.
b
y
t
e
s


 
 
h
a
v
e
 
h
r
 
:
=
 
B
.
r
e
t
u
r
n
s


 
 
h
a
v
e
 
h
t
s
 
:
=
 
a
t
o
m
s
_
s
p
e
c
 
(
w
s
 
:
=
 
w
s
L
_
t
o
l
d
)
 
B
.
p
r
e


 
 
h
a
v
e
 
h
o
w
n
 
:
 
s
.
v
m
.
f
i
n
d
C
l
a
s
s
 
R
L
 
=
 
s
o
m
e
 
m
.
c
l
s
 
:
=
 
f
i
n
d
C
l
a
s
s
_
o
f
_
m
e
t
h
o
d
N
a
m
e
d
 
B
.
n
a
m
e
d


 
 
h
a
v
e
 
h
l
o
c
k
s
 
:
=
 
B
.
n
o
t
S
y
n
c
h
r
o
n
i
z
e
d


 
 
h
a
v
e
 
h
t
a
b
 
:
=
 
v
x
_
t
a
b
l
e
 
B
 
(
h
t
s
 
(
.
c
o
d
e
W
i
t
h
 
y
L
_
t
o
l
d
 
c
L
_
t
o
l
d
 
4
 
(
s
o
m
e
 
.
i
n
t
)
 
[
(
0
,
 
9
,
 
1
2
,
 
3
2
)
]
)
 
(
b
y
 
d
e
c
i
d
e
 
+
k
e
r
n
e
l
)
)


 
 
s
u
b
s
t
 
h
s
z


 
 
h
a
v
e
 
h
D
 
:
=
 
h
D
0
.
s
e
l
f
 
(
s
z
 
:
=
 
s
.
h
e
a
p
.
s
i
z
e
)


 
 
c
l
e
a
r
 
h
D
0


 
 
g
e
n
e
r
a
l
i
z
e
 
h
A
e
 
:
 
v
a
_
A
 
[
(
h
,
 
.
i
n
r
 
(
1
1
,
 
[
.
r
e
f
 
h
l
k
,
 
.
r
e
f
 
h
v
,
 
.
r
e
f
 
h
t
,
 
.
r
e
f
 
h
c
o
l
,
 
.
r
e
f
 
h
a
n
s
,
 
.
i
n
t
 
c
f
o
r
,
 
.
i
n
t
 
c
b
a
c
k
,
 
.
i
n
t
 
f
i
l
t
]
)
)
,
 
(
h
l
k
,
 
.
i
n
r
 
(
3
,
 
[
.
r
e
f
 
h
v
,
 
.
r
e
f
 
h
t
,
 
.
r
e
f
 
h
p
a
d
,
 
.
r
e
f
 
h
c
h
k
]
)
)
,
 
(
h
v
,
 
.
i
n
r
 
(
1
0
,
 
[
.
i
n
t
 
(
n
I
 
r
v
)
,
 
.
r
e
f
 
h
u
s
e
r
,
 
.
r
e
f
 
h
o
w
n
e
r
,
 
.
r
e
f
 
h
t
r
i
e
d
,
 
.
r
e
f
 
h
i
d
e
n
t
,
 
.
r
e
f
 
h
t
a
p
e
,
 
.
i
n
t
 
g
i
v
e
n
,
 
.
r
e
f
 
h
s
e
c
r
e
t
,
 
.
r
e
f
 
q
e
n
t
,
 
.
r
e
f
 
h
n
o
e
,
 
.
i
n
t
 
p
e
r
m
,
 
.
i
n
t
 
p
l
a
i
n
]
)
)
,
 
(
h
t
a
p
e
,
 
.
i
n
r
 
(
6
,
 
[
.
r
e
f
 
a
t
a
p
e
,
 
.
i
n
t
 
X
t
a
p
e
.
1
]
)
)
,
 
(
h
c
o
l
,
 
.
i
n
r
 
(
6
,
 
[
.
r
e
f
 
a
c
o
l
,
 
.
i
n
t
 
X
c
o
l
.
1
]
)
)
,
 
(
h
a
n
s
,
 
.
i
n
r
 
(
6
,
 
[
.
r
e
f
 
a
a
n
s
,
 
.
i
n
t
 
X
a
n
s
.
1
]
)
)
,
 
(
a
o
u
t
,
 
.
i
n
l
 
(
c
L
,
 
1
,
 
.
i
n
r
 
(
.
i
n
l
 
g
g
)
)
)
]
 
s
.
h
e
a
p
.
s
i
z
e
 
=
 
A
 
a
t
 
h
D
 
h
V
 
h
X
 
⊢


 
 
h
a
v
e
 
h
A
 
:
 
∀
 
q
 
:
 
N
a
t
,
 
s
.
h
e
a
p
.
s
i
z
e
 
≤
 
q
 
→
 
A
 
q
 
:
=
 
f
u
n
 
q
 
h
 
=
>
 
b
y
 
r
w
 
[
←
 
h
A
e
]
;
 
e
x
a
c
t
 
O
r
.
i
n
r
 
h


 
 
h
a
v
e
 
h
S
 
:
 
v
a
_
S
 
A
 
s
.
h
e
a
p
 
s
.
h
e
a
p
 
[
]
 
:
=
 
v
a
_
S
.
r
f


 
 
h
a
v
e
 
h
K
 
:
=
 
h
V
.
1


 
 
h
a
v
e
 
h
F
 
:
 
C
a
l
l
F
i
x
 
p
 
m
 
c
 
c
L
_
t
o
l
d
 
4
 
s
 
_
 
w
s
L
_
t
o
l
d
 
R
L
 
:
=
 
⟨
h
x
,
 
h
b
,
 
h
m
l
,
 
h
o
w
n
,
 
h
t
s
⟩


 
 
h
a
v
e
 
h
l
 
:
=
 
l
v
_
e
n
t
r
y
 
[
.
r
e
f
 
h
,
 
.
i
n
t
 
v
i
,
 
.
r
e
f
 
a
o
u
t
]
 
(
n
 
:
=
 
4
)
 
(
N
a
t
.
l
e
_
o
f
_
b
l
e
_
e
q
_
t
r
u
e
 
r
f
l
)


 
 
r
w
 
[
l
g
_
e
n
t
r
y
_
e
q
]


 
 
g
e
n
e
r
a
l
i
z
e
 
(
l
g
_
s
l
 
[
.
r
e
f
 
h
,
 
.
i
n
t
 
v
i
,
 
.
r
e
f
 
a
o
u
t
]
 
+
+
 
L
i
s
t
.
r
e
p
l
i
c
a
t
e
 
(
4
 
-
 
(
l
g
_
s
l
 
[
.
r
e
f
 
h
,
 
.
i
n
t
 
v
i
,
 
.
r
e
f
 
a
o
u
t
]
)
.
l
e
n
g
t
h
)
 
S
l
o
t
.
u
n
s
e
t
)
.
t
o
A
r
r
a
y
 
=
 
l
s
 
a
t
 
h
l
 
⊢


 
 
h
a
v
e
 
h
l
 
:
 
l
v
_
h
a
s
 
l
s
 
4
 
[
(
0
,
 
.
r
e
f
 
h
)
,
 
(
1
,
 
.
i
n
t
 
v
i
)
,
 
(
2
,
 
.
r
e
f
 
a
o
u
t
)
]
 
:
=
 
h
l


 
 
h
a
v
e
 
w
_
0
 
:
=
 
h
t
s
 
(
.
c
l
a
s
s
L
i
n
k
 
R
L
 
3
2
 
"
j
a
v
a
/
l
a
n
g
/
I
n
d
e
x
O
u
t
O
f
B
o
u
n
d
s
E
x
c
e
p
t
i
o
n
"
)
 
(
b
y
 
d
e
c
i
d
e
 
+
k
e
r
n
e
l
)


 
 
r
e
f
i
n
e
 
l
v
_
a
l
o
a
d
_
n
 
h
x
 
h
b
 
d
L
_
t
o
l
d
_
0
 
r
f
l
 
(
l
v
_
a
t
 
h
l
 
2
 
r
f
l
)
 
?
_


 
 
r
e
f
i
n
e
 
l
v
_
i
c
o
n
s
t
 
(
v
 
:
=
 
0
)
 
h
x
 
h
b
 
d
L
_
t
o
l
d
_
1
 
(
b
y
 
d
e
c
i
d
e
)
 
?
_


 
 
r
e
f
i
n
e
 
l
v
_
a
l
o
a
d
_
n
 
h
x
 
h
b
 
d
L
_
t
o
l
d
_
2
 
r
f
l
 
(
l
v
_
a
t
 
h
l
 
0
 
r
f
l
)
 
?
_


 
 
r
e
f
i
n
e
 
l
v
_
i
l
o
a
d
_
n
 
h
x
 
h
b
 
d
L
_
t
o
l
d
_
3
 
r
f
l
 
(
l
v
_
a
t
 
h
l
 
1
 
r
f
l
)
 
?
_


 
 
o
b
t
a
i
n
 
⟨
t
_
2
5
,
 
h
t
_
2
5
⟩
 
:
 
∃
 
t
9
 
:
 
N
a
t
 
×
 
I
n
t
3
2
,
 
t
9
 
=
 
F
_
X
1
0
_
t
o
l
d
_
e
 
g
i
v
e
n
 
p
e
r
m
 
X
t
a
p
e
 
X
c
o
l
 
X
a
n
s
 
v
i
 
:
=
 
⟨
_
,
 
r
f
l
⟩


 
 
r
e
f
i
n
e
 
g
T
V
i
 
h
F
 
h
l
 
h
V
 
h
X
 
h
P
 
h
D
 
h
S
 
h
A
 
[
0
,
 
1
,
 
2
,
 
3
,
 
4
,
 
5
]
 
[
6
]
 
(
w
c
 
:
=
 
[
(
h
,
 
.
i
n
r
 
(
1
1
,
 
[
.
r
e
f
 
h
l
k
,
 
.
r
e
f
 
h
v
,
 
.
r
e
f
 
h
t
,
 
.
r
e
f
 
h
c
o
l
,
 
.
r
e
f
 
h
a
n
s
,
 
.
i
n
t
 
c
f
o
r
,
 
.
i
n
t
 
c
b
a
c
k
,
 
.
i
n
t
 
f
i
l
t
]
)
)
,
 
(
h
l
k
,
 
.
i
n
r
 
(
3
,
 
[
.
r
e
f
 
h
v
,
 
.
r
e
f
 
h
t
,
 
.
r
e
f
 
h
p
a
d
,
 
.
r
e
f
 
h
c
h
k
]
)
)
,
 
(
h
v
,
 
.
i
n
r
 
(
1
0
,
 
[
.
i
n
t
 
(
n
I
 
r
v
)
,
 
.
r
e
f
 
h
u
s
e
r
,
 
.
r
e
f
 
h
o
w
n
e
r
,
 
.
r
e
f
 
h
t
r
i
e
d
,
 
.
r
e
f
 
h
i
d
e
n
t
,
 
.
r
e
f
 
h
t
a
p
e
,
 
.
i
n
t
 
g
i
v
e
n
,
 
.
r
e
f
 
h
s
e
c
r
e
t
,
 
.
r
e
f
 
q
e
n
t
,
 
.
r
e
f
 
h
n
o
e
,
 
.
i
n
t
 
p
e
r
m
,
 
.
i
n
t
 
p
l
a
i
n
]
)
)
,
 
(
h
t
a
p
e
,
 
.
i
n
r
 
(
6
,
 
[
.
r
e
f
 
a
t
a
p
e
,
 
.
i
n
t
 
X
t
a
p
e
.
1
]
)
)
,
 
(
h
c
o
l
,
 
.
i
n
r
 
(
6
,
 
[
.
r
e
f
 
a
c
o
l
,
 
.
i
n
t
 
X
c
o
l
.
1
]
)
)
,
 
(
h
a
n
s
,
 
.
i
n
r
 
(
6
,
 
[
.
r
e
f
 
a
a
n
s
,
 
.
i
n
t
 
X
a
n
s
.
1
]
)
)
]
)
 
(
w
r
 
:
=
 
[
(
a
o
u
t
,
 
.
i
n
l
 
(
c
L
,
 
1
,
 
.
i
n
r
 
(
.
i
n
l
 
g
g
)
)
)
]
)
 
r
f
l
 
r
f
l
 
r
f
l
 
(
b
y
 
d
e
c
i
d
e
)
 
0
 
1
1
 
r
f
l
 
r
f
l
 
r
f
l
 
(
k
_
X
1
0
_
t
o
l
d
_
e
 
E
 
s
a
 
l
 
h
s
t
 
h
 
h
l
k
 
h
v
 
h
t
 
h
c
o
l
 
h
a
n
s
 
h
p
a
d
 
h
c
h
k
 
h
u
s
e
r
 
h
o
w
n
e
r
 
h
t
r
i
e
d
 
h
i
d
e
n
t
 
h
t
a
p
e
 
h
s
e
c
r
e
t
 
q
e
n
t
 
h
n
o
e
 
a
t
a
p
e
 
a
c
o
l
 
a
a
n
s
 
r
v
 
c
f
o
r
 
c
b
a
c
k
 
f
i
l
t
 
g
i
v
e
n
 
p
e
r
m
 
p
l
a
i
n
 
X
t
a
p
e
 
X
c
o
l
 
X
a
n
s
 
v
i
)
 
(
c
w
V
 
1
 
h
t
s
 
g
L
_
t
o
l
d
_
X
1
0
_
t
o
l
d
 
r
f
l
 
r
f
l
 
r
f
l
 
(
b
y
 
d
e
c
i
d
e
 
+
k
e
r
n
e
l
)
 
⟨
N
a
t
.
l
e
_
o
f
_
b
l
e
_
e
q
_
t
r
u
e
 
r
f
l
,
 
N
a
t
.
l
e
_
o
f
_
b
l
e
_
e
q
_
t
r
u
e
 
r
f
l
⟩
)
 
r
f
l
 
r
f
l
 
r
f
l
 
(
N
a
t
.
l
e
_
o
f
_
b
l
e
_
e
q
_
t
r
u
e
 
r
f
l
)
 
d
L
_
t
o
l
d
_
4
 
⟨
N
a
t
.
l
e
_
o
f
_
b
l
e
_
e
q
_
t
r
u
e
 
r
f
l
,
 
N
a
t
.
l
e
_
o
f
_
b
l
e
_
e
q
_
t
r
u
e
 
r
f
l
⟩
 
(
f
u
n
 
n
m
_
2
6
 
c
e
_
2
6
 
q
_
2
6
 
H
_
2
7
 
l
o
c
s
_
2
7
 
p
x
_
2
6
 
h
P
_
2
7
 
h
D
_
2
7
 
h
S
_
2
7
 
h
c
e
_
2
6
 
h
c
v
_
2
6
 
h
c
l
_
2
6
 
=
>
 
?
_
)
 
(
f
u
n
 
r
_
2
3
 
_
 
H
_
2
4
 
l
o
c
s
_
2
4
 
h
u
_
2
3
 
h
P
_
2
4
 
h
D
_
2
4
 
h
S
_
2
4
 
=
>
 
?
_
)


 
 
·
 
r
e
p
l
a
c
e
 
h
P
_
2
7
 
:
 
v
a
_
P
 
E
.
1
 
v
w
C
l
 
[
(
a
o
u
t
,
 
.
i
n
l
 
(
c
L
,
 
1
,
 
.
i
n
r
 
(
.
i
n
l
 
g
g
)
)
)
,
 
(
h
,
 
.
i
n
r
 
(
1
1
,
 
[
.
r
e
f
 
h
l
k
,
 
.
r
e
f
 
h
v
,
 
.
r
e
f
 
h
t
,
 
.
r
e
f
 
h
c
o
l
,
 
.
r
e
f
 
h
a
n
s
,
 
.
i
n
t
 
c
f
o
r
,
 
.
i
n
t
 
c
b
a
c
k
,
 
.
i
n
t
 
f
i
l
t
]
)
)
,
 
(
h
l
k
,
 
.
i
n
r
 
(
3
,
 
[
.
r
e
f
 
h
v
,
 
.
r
e
f
 
h
t
,
 
.
r
e
f
 
h
p
a
d
,
 
.
r
e
f
 
h
c
h
k
]
)
)
,
 
(
h
v
,
 
.
i
n
r
 
(
1
0
,
 
[
.
i
n
t
 
(
n
I
 
r
v
)
,
 
.
r
e
f
 
h
u
s
e
r
,
 
.
r
e
f
 
h
o
w
n
e
r
,
 
.
r
e
f
 
h
t
r
i
e
d
,
 
.
r
e
f
 
h
i
d
e
n
t
,
 
.
r
e
f
 
h
t
a
p
e
,
 
.
i
n
t
 
g
i
v
e
n
,
 
.
r
e
f
 
h
s
e
c
r
e
t
,
 
.
r
e
f
 
q
e
n
t
,
 
.
r
e
f
 
h
n
o
e
,
 
.
i
n
t
 
p
e
r
m
,
 
.
i
n
t
 
p
l
a
i
n
]
)
)
,
 
(
h
t
a
p
e
,
 
.
i
n
r
 
(
6
,
 
[
.
r
e
f
 
a
t
a
p
e
,
 
.
i
n
t
 
X
t
a
p
e
.
1
]
)
)
,
 
(
h
c
o
l
,
 
.
i
n
r
 
(
6
,
 
[
.
r
e
f
 
a
c
o
l
,
 
.
i
n
t
 
X
c
o
l
.
1
]
)
)
,
 
(
h
a
n
s
,
 
.
i
n
r
 
(
6
,
 
[
.
r
e
f
 
a
a
n
s
,
 
.
i
n
t
 
X
a
n
s
.
1
]
)
)
]
 
H
_
2
7
 
:
=
 
h
P
_
2
7


 
 
 
 
r
e
p
l
a
c
e
 
h
D
_
2
7
 
:
 
v
a
_
D
 
A
 
[
(
a
o
u
t
,
 
.
i
n
l
 
(
c
L
,
 
1
,
 
.
i
n
r
 
(
.
i
n
l
 
g
g
)
)
)
,
 
(
h
,
 
.
i
n
r
 
(
1
1
,
 
[
.
r
e
f
 
h
l
k
,
 
.
r
e
f
 
h
v
,
 
.
r
e
f
 
h
t
,
 
.
r
e
f
 
h
c
o
l
,
 
.
r
e
f
 
h
a
n
s
,
 
.
i
n
t
 
c
f
o
r
,
 
.
i
n
t
 
c
b
a
c
k
,
 
.
i
n
t
 
f
i
l
t
]
)
)
,
 
(
h
l
k
,
 
.
i
n
r
 
(
3
,
 
[
.
r
e
f
 
h
v
,
 
.
r
e
f
 
h
t
,
 
.
r
e
f
 
h
p
a
d
,
 
.
r
e
f
 
h
c
h
k
]
)
)
,
 
(
h
v
,
 
.
i
n
r
 
(
1
0
,
 
[
.
i
n
t
 
(
n
I
 
r
v
)
,
 
.
r
e
f
 
h
u
s
e
r
,
 
.
r
e
f
 
h
o
w
n
e
r
,
 
.
r
e
f
 
h
t
r
i
e
d
,
 
.
r
e
f
 
h
i
d
e
n
t
,
 
.
r
e
f
 
h
t
a
p
e
,
 
.
i
n
t
 
g
i
v
e
n
,
 
.
r
e
f
 
h
s
e
c
r
e
t
,
 
.
r
e
f
 
q
e
n
t
,
 
.
r
e
f
 
h
n
o
e
,
 
.
i
n
t
 
p
e
r
m
,
 
.
i
n
t
 
p
l
a
i
n
]
)
)
,
 
(
h
t
a
p
e
,
 
.
i
n
r
 
(
6
,
 
[
.
r
e
f
 
a
t
a
p
e
,
 
.
i
n
t
 
X
t
a
p
e
.
1
]
)
)
,
 
(
h
c
o
l
,
 
.
i
n
r
 
(
6
,
 
[
.
r
e
f
 
a
c
o
l
,
 
.
i
n
t
 
X
c
o
l
.
1
]
)
)
,
 
(
h
a
n
s
,
 
.
i
n
r
 
(
6
,
 
[
.
r
e
f
 
a
a
n
s
,
 
.
i
n
t
 
X
a
n
s
.
1
]
)
)
]
 
:
=
 
h
D
_
2
7


 
 
 
 
c
l
e
a
r
 
h
P
 
h
D
 
h
S


 
 
 
 
h
a
v
e
 
c
_
2
8
 
:
 
¬
 
t
_
2
5
.
1
 
=
 
0
 
:
=
 
b
y
 
r
w
 
[
h
t
_
2
5
]
;
 
e
x
a
c
t
 
p
x
_
2
6
.
2


 
 
 
 
h
a
v
e
 
c
_
2
9
 
:
 
t
_
2
5
.
1
 
=
 
4
 
:
=
 
b
y
 
h
a
v
e
 
q
9
 
:
=
 
L
c
_
X
1
0
_
t
o
l
d
_
e
 
_
 
_
 
_
 
_
 
_
 
_
;
 
r
w
 
[
←
 
h
t
_
2
5
]
 
a
t
 
q
9
;
 
o
m
e
g
a


 
 
 
 
o
b
t
a
i
n
 
r
f
l
 
:
 
n
m
_
2
6
 
=
 
"
j
a
v
a
/
l
a
n
g
/
I
n
d
e
x
O
u
t
O
f
B
o
u
n
d
s
E
x
c
e
p
t
i
o
n
"
 
:
=
 
p
x
_
2
6
.
1
.
t
r
a
n
s
 
(
b
y
 
r
w
 
[
←
 
h
t
_
2
5
,
 
c
_
2
9
]
;
 
r
f
l
)


 
 
 
 
r
e
f
i
n
e
 
v
x
_
c
a
t
c
h
 
h
o
w
n
 
[
]
 
⟨
0
,
 
9
,
 
1
2
,
 
3
2
⟩
 
[
]
 
(
b
y
 
r
w
 
[
h
t
a
b
]
;
 
r
f
l
)
 
(
f
u
n
 
z
 
h
9
 
=
>
 
a
b
s
u
r
d
 
h
9
 
L
i
s
t
.
n
o
t
_
m
e
m
_
n
i
l
)
 
(
b
y
 
d
e
c
i
d
e
)
 
(
b
y
 
d
e
c
i
d
e
)
 
w
_
0
 
(
v
a
_
N
w
.
u
s
e
 
r
f
l
 
(
h
X
.
2
.
1
 
(
.
c
a
s
t
a
b
l
e
 
"
j
a
v
a
/
l
a
n
g
/
I
n
d
e
x
O
u
t
O
f
B
o
u
n
d
s
E
x
c
e
p
t
i
o
n
"
 
"
j
a
v
a
/
l
a
n
g
/
I
n
d
e
x
O
u
t
O
f
B
o
u
n
d
s
E
x
c
e
p
t
i
o
n
"
)
 
(
b
y
 
d
e
c
i
d
e
 
+
k
e
r
n
e
l
)
)
)
 
h
c
e
_
2
6
 
h
c
v
_
2
6
 
h
c
l
_
2
6
 
?
_


 
 
 
 
r
e
f
i
n
e
 
l
v
_
a
s
t
o
r
e
_
n
 
(
l
v
'
 
:
=
 
[
(
3
,
 
.
r
e
f
 
q
_
2
6
)
,
 
(
0
,
 
.
r
e
f
 
h
)
,
 
(
1
,
 
.
i
n
t
 
v
i
)
,
 
(
2
,
 
.
r
e
f
 
a
o
u
t
)
]
)
 
h
x
 
h
b
 
d
L
_
t
o
l
d
_
1
2
 
r
f
l
 
h
l
 
(
b
y
 
d
e
c
i
d
e
)
 
r
f
l
 
(
f
u
n
 
l
s
_
3
0
 
h
l
_
3
0
 
=
>
 
?
_
)


 
 
 
 
c
l
e
a
r
 
h
l


 
 
 
 
r
e
f
i
n
e
 
l
v
_
i
c
o
n
s
t
 
(
v
 
:
=
 
1
)
 
h
x
 
h
b
 
d
L
_
t
o
l
d
_
1
3
 
(
b
y
 
d
e
c
i
d
e
)
 
?
_


 
 
 
 
r
e
f
i
n
e
 
v
x
_
r
e
t
 
?
_


 
 
 
 
h
a
v
e
 
h
p
o
s
t
 
:
 
(
(
1
,
 
g
g
)
 
:
 
I
n
t
3
2
 
×
 
(
N
a
t
 
→
 
I
n
t
6
4
)
)
 
=
 
F
_
L
_
t
o
l
d
_
e
 
g
i
v
e
n
 
p
e
r
m
 
X
t
a
p
e
 
X
c
o
l
 
X
a
n
s
 
g
g
 
v
i
 
:
=
 
(
s
h
o
w
 
F
_
L
_
t
o
l
d
_
e
 
g
i
v
e
n
 
p
e
r
m
 
X
t
a
p
e
 
X
c
o
l
 
X
a
n
s
 
g
g
 
v
i
 
=
 
(
(
1
,
 
g
g
)
 
:
 
I
n
t
3
2
 
×
 
(
N
a
t
 
→
 
I
n
t
6
4
)
)
 
f
r
o
m
 
(
g
L
e
t
_
e
q
 
h
t
_
2
5
 
(
(
i
f
_
n
e
g
 
c
_
2
8
)
.
t
r
a
n
s
 
r
f
l
)
)
)
.
s
y
m
m


 
 
 
 
h
a
v
e
 
h
P
9
 
:
=
 
h
P
_
2
7
.
s
u
b
 
(
w
s
'
 
:
=
 
[
(
h
,
 
.
i
n
r
 
(
1
1
,
 
[
.
r
e
f
 
h
l
k
,
 
.
r
e
f
 
h
v
,
 
.
r
e
f
 
h
t
,
 
.
r
e
f
 
h
c
o
l
,
 
.
r
e
f
 
h
a
n
s
,
 
.
i
n
t
 
c
f
o
r
,
 
.
i
n
t
 
c
b
a
c
k
,
 
.
i
n
t
 
f
i
l
t
]
)
)
,
 
(
h
l
k
,
 
.
i
n
r
 
(
3
,
 
[
.
r
e
f
 
h
v
,
 
.
r
e
f
 
h
t
,
 
.
r
e
f
 
h
p
a
d
,
 
.
r
e
f
 
h
c
h
k
]
)
)
,
 
(
h
v
,
 
.
i
n
r
 
(
1
0
,
 
[
.
i
n
t
 
(
n
I
 
r
v
)
,
 
.
r
e
f
 
h
u
s
e
r
,
 
.
r
e
f
 
h
o
w
n
e
r
,
 
.
r
e
f
 
h
t
r
i
e
d
,
 
.
r
e
f
 
h
i
d
e
n
t
,
 
.
r
e
f
 
h
t
a
p
e
,
 
.
i
n
t
 
g
i
v
e
n
,
 
.
r
e
f
 
h
s
e
c
r
e
t
,
 
.
r
e
f
 
q
e
n
t
,
 
.
r
e
f
 
h
n
o
e
,
 
.
i
n
t
 
p
e
r
m
,
 
.
i
n
t
 
p
l
a
i
n
]
)
)
,
 
(
h
t
a
p
e
,
 
.
i
n
r
 
(
6
,
 
[
.
r
e
f
 
a
t
a
p
e
,
 
.
i
n
t
 
X
t
a
p
e
.
1
]
)
)
,
 
(
h
c
o
l
,
 
.
i
n
r
 
(
6
,
 
[
.
r
e
f
 
a
c
o
l
,
 
.
i
n
t
 
X
c
o
l
.
1
]
)
)
,
 
(
h
a
n
s
,
 
.
i
n
r
 
(
6
,
 
[
.
r
e
f
 
a
a
n
s
,
 
.
i
n
t
 
X
a
n
s
.
1
]
)
)
,
 
(
a
o
u
t
,
 
.
i
n
l
 
(
c
L
,
 
1
,
 
.
i
n
r
 
(
.
i
n
l
 
g
g
)
)
)
]
)
 
[
1
,
 
2
,
 
3
,
 
4
,
 
5
,
 
6
,
 
0
]
 
r
f
l


 
 
 
 
h
a
v
e
 
h
D
9
 
:
=
 
h
D
_
2
7
.
s
u
b
 
(
w
s
'
 
:
=
 
[
(
h
,
 
.
i
n
r
 
(
1
1
,
 
[
.
r
e
f
 
h
l
k
,
 
.
r
e
f
 
h
v
,
 
.
r
e
f
 
h
t
,
 
.
r
e
f
 
h
c
o
l
,
 
.
r
e
f
 
h
a
n
s
,
 
.
i
n
t
 
c
f
o
r
,
 
.
i
n
t
 
c
b
a
c
k
,
 
.
i
n
t
 
f
i
l
t
]
)
)
,
 
(
h
l
k
,
 
.
i
n
r
 
(
3
,
 
[
.
r
e
f
 
h
v
,
 
.
r
e
f
 
h
t
,
 
.
r
e
f
 
h
p
a
d
,
 
.
r
e
f
 
h
c
h
k
]
)
)
,
 
(
h
v
,
 
.
i
n
r
 
(
1
0
,
 
[
.
i
n
t
 
(
n
I
 
r
v
)
,
 
.
r
e
f
 
h
u
s
e
r
,
 
.
r
e
f
 
h
o
w
n
e
r
,
 
.
r
e
f
 
h
t
r
i
e
d
,
 
.
r
e
f
 
h
i
d
e
n
t
,
 
.
r
e
f
 
h
t
a
p
e
,
 
.
i
n
t
 
g
i
v
e
n
,
 
.
r
e
f
 
h
s
e
c
r
e
t
,
 
.
r
e
f
 
q
e
n
t
,
 
.
r
e
f
 
h
n
o
e
,
 
.
i
n
t
 
p
e
r
m
,
 
.
i
n
t
 
p
l
a
i
n
]
)
)
,
 
(
h
t
a
p
e
,
 
.
i
n
r
 
(
6
,
 
[
.
r
e
f
 
a
t
a
p
e
,
 
.
i
n
t
 
X
t
a
p
e
.
1
]
)
)
,
 
(
h
c
o
l
,
 
.
i
n
r
 
(
6
,
 
[
.
r
e
f
 
a
c
o
l
,
 
.
i
n
t
 
X
c
o
l
.
1
]
)
)
,
 
(
h
a
n
s
,
 
.
i
n
r
 
(
6
,
 
[
.
r
e
f
 
a
a
n
s
,
 
.
i
n
t
 
X
a
n
s
.
1
]
)
)
,
 
(
a
o
u
t
,
 
.
i
n
l
 
(
c
L
,
 
1
,
 
.
i
n
r
 
(
.
i
n
l
 
g
g
)
)
)
]
)
 
[
1
,
 
2
,
 
3
,
 
4
,
 
5
,
 
6
,
 
0
]
 
(
b
y
 
d
e
c
i
d
e
)
 
r
f
l


 
 
 
 
e
x
a
c
t
 
W
.
i
r
e
t
 
(
v
 
:
=
 
1
)
 
h
x
 
h
b
 
h
r
 
(
f
u
n
 
t
 
h
t
 
h
W
 
=
>
 
⟨
⟨
1
,
 
g
g
,
 
r
f
l
,
 
⟨
c
o
n
g
r
A
r
g
 
P
r
o
d
.
f
s
t
 
h
p
o
s
t
,
 
c
o
n
g
r
A
r
g
 
P
r
o
d
.
s
n
d
 
h
p
o
s
t
⟩
,
 
b
y
 
r
w
 
[
h
t
]
;
 
e
x
a
c
t
 
h
P
9
,
 
h
D
9
⟩
,
 
h
S
_
2
7
.
F
 
h
t
⟩
)
 
h
S
_
2
7
.
2
.
2
 
d
L
_
t
o
l
d
_
1
4


 
 
·
 
h
a
v
e
 
e
_
3
2
 
:
 
t
_
2
5
 
=
 
(
(
0
,
 
r
_
2
3
)
 
:
 
N
a
t
 
×
 
I
n
t
3
2
)
 
:
=
 
h
t
_
2
5
.
t
r
a
n
s
 
h
u
_
2
3
.
s
y
m
m


 
 
 
 
h
a
v
e
 
c
_
3
1
 
:
 
t
_
2
5
.
1
 
=
 
0
 
:
=
 
b
y
 
r
w
 
[
e
_
3
2
]


 
 
 
 
o
b
t
a
i
n
 
r
f
l
 
:
 
r
_
2
3
 
=
 
t
_
2
5
.
2
 
:
=
 
(
c
o
n
g
r
A
r
g
 
(
f
u
n
 
z
 
:
 
N
a
t
 
×
 
I
n
t
3
2
 
=
>
 
z
.
2
)
 
e
_
3
2
)
.
s
y
m
m


 
 
 
 
r
e
p
l
a
c
e
 
h
P
_
2
4
 
:
 
v
a
_
P
 
E
.
1
 
v
w
C
l
 
[
(
a
o
u
t
,
 
.
i
n
l
 
(
c
L
,
 
1
,
 
.
i
n
r
 
(
.
i
n
l
 
g
g
)
)
)
,
 
(
h
,
 
.
i
n
r
 
(
1
1
,
 
[
.
r
e
f
 
h
l
k
,
 
.
r
e
f
 
h
v
,
 
.
r
e
f
 
h
t
,
 
.
r
e
f
 
h
c
o
l
,
 
.
r
e
f
 
h
a
n
s
,
 
.
i
n
t
 
c
f
o
r
,
 
.
i
n
t
 
c
b
a
c
k
,
 
.
i
n
t
 
f
i
l
t
]
)
)
,
 
(
h
l
k
,
 
.
i
n
r
 
(
3
,
 
[
.
r
e
f
 
h
v
,
 
.
r
e
f
 
h
t
,
 
.
r
e
f
 
h
p
a
d
,
 
.
r
e
f
 
h
c
h
k
]
)
)
,
 
(
h
v
,
 
.
i
n
r
 
(
1
0
,
 
[
.
i
n
t
 
(
n
I
 
r
v
)
,
 
.
r
e
f
 
h
u
s
e
r
,
 
.
r
e
f
 
h
o
w
n
e
r
,
 
.
r
e
f
 
h
t
r
i
e
d
,
 
.
r
e
f
 
h
i
d
e
n
t
,
 
.
r
e
f
 
h
t
a
p
e
,
 
.
i
n
t
 
g
i
v
e
n
,
 
.
r
e
f
 
h
s
e
c
r
e
t
,
 
.
r
e
f
 
q
e
n
t
,
 
.
r
e
f
 
h
n
o
e
,
 
.
i
n
t
 
p
e
r
m
,
 
.
i
n
t
 
p
l
a
i
n
]
)
)
,
 
(
h
t
a
p
e
,
 
.
i
n
r
 
(
6
,
 
[
.
r
e
f
 
a
t
a
p
e
,
 
.
i
n
t
 
X
t
a
p
e
.
1
]
)
)
,
 
(
h
c
o
l
,
 
.
i
n
r
 
(
6
,
 
[
.
r
e
f
 
a
c
o
l
,
 
.
i
n
t
 
X
c
o
l
.
1
]
)
)
,
 
(
h
a
n
s
,
 
.
i
n
r
 
(
6
,
 
[
.
r
e
f
 
a
a
n
s
,
 
.
i
n
t
 
X
a
n
s
.
1
]
)
)
]
 
H
_
2
4
 
:
=
 
h
P
_
2
4


 
 
 
 
r
e
p
l
a
c
e
 
h
D
_
2
4
 
:
 
v
a
_
D
 
A
 
[
(
a
o
u
t
,
 
.
i
n
l
 
(
c
L
,
 
1
,
 
.
i
n
r
 
(
.
i
n
l
 
g
g
)
)
)
,
 
(
h
,
 
.
i
n
r
 
(
1
1
,
 
[
.
r
e
f
 
h
l
k
,
 
.
r
e
f
 
h
v
,
 
.
r
e
f
 
h
t
,
 
.
r
e
f
 
h
c
o
l
,
 
.
r
e
f
 
h
a
n
s
,
 
.
i
n
t
 
c
f
o
r
,
 
.
i
n
t
 
c
b
a
c
k
,
 
.
i
n
t
 
f
i
l
t
]
)
)
,
 
(
h
l
k
,
 
.
i
n
r
 
(
3
,
 
[
.
r
e
f
 
h
v
,
 
.
r
e
f
 
h
t
,
 
.
r
e
f
 
h
p
a
d
,
 
.
r
e
f
 
h
c
h
k
]
)
)
,
 
(
h
v
,
 
.
i
n
r
 
(
1
0
,
 
[
.
i
n
t
 
(
n
I
 
r
v
)
,
 
.
r
e
f
 
h
u
s
e
r
,
 
.
r
e
f
 
h
o
w
n
e
r
,
 
.
r
e
f
 
h
t
r
i
e
d
,
 
.
r
e
f
 
h
i
d
e
n
t
,
 
.
r
e
f
 
h
t
a
p
e
,
 
.
i
n
t
 
g
i
v
e
n
,
 
.
r
e
f
 
h
s
e
c
r
e
t
,
 
.
r
e
f
 
q
e
n
t
,
 
.
r
e
f
 
h
n
o
e
,
 
.
i
n
t
 
p
e
r
m
,
 
.
i
n
t
 
p
l
a
i
n
]
)
)
,
 
(
h
t
a
p
e
,
 
.
i
n
r
 
(
6
,
 
[
.
r
e
f
 
a
t
a
p
e
,
 
.
i
n
t
 
X
t
a
p
e
.
1
]
)
)
,
 
(
h
c
o
l
,
 
.
i
n
r
 
(
6
,
 
[
.
r
e
f
 
a
c
o
l
,
 
.
i
n
t
 
X
c
o
l
.
1
]
)
)
,
 
(
h
a
n
s
,
 
.
i
n
r
 
(
6
,
 
[
.
r
e
f
 
a
a
n
s
,
 
.
i
n
t
 
X
a
n
s
.
1
]
)
)
]
 
:
=
 
h
D
_
2
4


 
 
 
 
c
l
e
a
r
 
h
P
 
h
D
 
h
S


 
 
 
 
r
e
f
i
n
e
 
l
v
_
i
2
l
 
(
v
 
:
=
 
t
_
2
5
.
2
.
t
o
I
n
t
6
4
)
 
h
x
 
h
b
 
d
L
_
t
o
l
d
_
7
 
r
f
l
 
?
_


 
 
 
 
r
e
f
i
n
e
 
v
a
_
l
a
s
t
 
h
x
 
h
b
 
h
L
 
h
P
_
2
4
 
h
D
_
2
4
 
h
S
_
2
4
 
0
 
2
 
r
f
l
 
r
f
l
 
(
b
y
 
d
e
c
i
d
e
)
 
d
L
_
t
o
l
d
_
8
 
(
f
u
n
 
H
_
3
3
 
l
o
c
s
_
3
3
 
h
P
_
3
3
 
h
D
_
3
3
 
h
S
_
3
3
 
=
>
 
?
_
)


 
 
 
 
r
e
p
l
a
c
e
 
h
P
_
3
3
 
:
 
v
a
_
P
 
E
.
1
 
v
w
C
l
 
[
(
a
o
u
t
,
 
.
i
n
l
 
(
c
L
,
 
1
,
 
.
i
n
r
 
(
.
i
n
l
 
(
v
p
_
u
p
d
L
 
g
g
 
(
0
 
:
 
I
n
t
3
2
)
.
t
o
N
a
t
C
l
a
m
p
N
e
g
 
(
t
_
2
5
.
2
.
t
o
I
n
t
6
4
)
)
)
)
)
,
 
(
h
,
 
.
i
n
r
 
(
1
1
,
 
[
.
r
e
f
 
h
l
k
,
 
.
r
e
f
 
h
v
,
 
.
r
e
f
 
h
t
,
 
.
r
e
f
 
h
c
o
l
,
 
.
r
e
f
 
h
a
n
s
,
 
.
i
n
t
 
c
f
o
r
,
 
.
i
n
t
 
c
b
a
c
k
,
 
.
i
n
t
 
f
i
l
t
]
)
)
,
 
(
h
l
k
,
 
.
i
n
r
 
(
3
,
 
[
.
r
e
f
 
h
v
,
 
.
r
e
f
 
h
t
,
 
.
r
e
f
 
h
p
a
d
,
 
.
r
e
f
 
h
c
h
k
]
)
)
,
 
(
h
v
,
 
.
i
n
r
 
(
1
0
,
 
[
.
i
n
t
 
(
n
I
 
r
v
)
,
 
.
r
e
f
 
h
u
s
e
r
,
 
.
r
e
f
 
h
o
w
n
e
r
,
 
.
r
e
f
 
h
t
r
i
e
d
,
 
.
r
e
f
 
h
i
d
e
n
t
,
 
.
r
e
f
 
h
t
a
p
e
,
 
.
i
n
t
 
g
i
v
e
n
,
 
.
r
e
f
 
h
s
e
c
r
e
t
,
 
.
r
e
f
 
q
e
n
t
,
 
.
r
e
f
 
h
n
o
e
,
 
.
i
n
t
 
p
e
r
m
,
 
.
i
n
t
 
p
l
a
i
n
]
)
)
,
 
(
h
t
a
p
e
,
 
.
i
n
r
 
(
6
,
 
[
.
r
e
f
 
a
t
a
p
e
,
 
.
i
n
t
 
X
t
a
p
e
.
1
]
)
)
,
 
(
h
c
o
l
,
 
.
i
n
r
 
(
6
,
 
[
.
r
e
f
 
a
c
o
l
,
 
.
i
n
t
 
X
c
o
l
.
1
]
)
)
,
 
(
h
a
n
s
,
 
.
i
n
r
 
(
6
,
 
[
.
r
e
f
 
a
a
n
s
,
 
.
i
n
t
 
X
a
n
s
.
1
]
)
)
]
 
H
_
3
3
 
:
=
 
h
P
_
3
3


 
 
 
 
r
e
p
l
a
c
e
 
h
D
_
3
3
 
:
 
v
a
_
D
 
A
 
[
(
a
o
u
t
,
 
.
i
n
l
 
(
c
L
,
 
1
,
 
.
i
n
r
 
(
.
i
n
l
 
(
v
p
_
u
p
d
L
 
g
g
 
(
0
 
:
 
I
n
t
3
2
)
.
t
o
N
a
t
C
l
a
m
p
N
e
g
 
(
t
_
2
5
.
2
.
t
o
I
n
t
6
4
)
)
)
)
)
,
 
(
h
,
 
.
i
n
r
 
(
1
1
,
 
[
.
r
e
f
 
h
l
k
,
 
.
r
e
f
 
h
v
,
 
.
r
e
f
 
h
t
,
 
.
r
e
f
 
h
c
o
l
,
 
.
r
e
f
 
h
a
n
s
,
 
.
i
n
t
 
c
f
o
r
,
 
.
i
n
t
 
c
b
a
c
k
,
 
.
i
n
t
 
f
i
l
t
]
)
)
,
 
(
h
l
k
,
 
.
i
n
r
 
(
3
,
 
[
.
r
e
f
 
h
v
,
 
.
r
e
f
 
h
t
,
 
.
r
e
f
 
h
p
a
d
,
 
.
r
e
f
 
h
c
h
k
]
)
)
,
 
(
h
v
,
 
.
i
n
r
 
(
1
0
,
 
[
.
i
n
t
 
(
n
I
 
r
v
)
,
 
.
r
e
f
 
h
u
s
e
r
,
 
.
r
e
f
 
h
o
w
n
e
r
,
 
.
r
e
f
 
h
t
r
i
e
d
,
 
.
r
e
f
 
h
i
d
e
n
t
,
 
.
r
e
f
 
h
t
a
p
e
,
 
.
i
n
t
 
g
i
v
e
n
,
 
.
r
e
f
 
h
s
e
c
r
e
t
,
 
.
r
e
f
 
q
e
n
t
,
 
.
r
e
f
 
h
n
o
e
,
 
.
i
n
t
 
p
e
r
m
,
 
.
i
n
t
 
p
l
a
i
n
]
)
)
,
 
(
h
t
a
p
e
,
 
.
i
n
r
 
(
6
,
 
[
.
r
e
f
 
a
t
a
p
e
,
 
.
i
n
t
 
X
t
a
p
e
.
1
]
)
)
,
 
(
h
c
o
l
,
 
.
i
n
r
 
(
6
,
 
[
.
r
e
f
 
a
c
o
l
,
 
.
i
n
t
 
X
c
o
l
.
1
]
)
)
,
 
(
h
a
n
s
,
 
.
i
n
r
 
(
6
,
 
[
.
r
e
f
 
a
a
n
s
,
 
.
i
n
t
 
X
a
n
s
.
1
]
)
)
]
 
:
=
 
h
D
_
3
3


 
 
 
 
c
l
e
a
r
 
h
P
_
2
4
 
h
D
_
2
4
 
h
S
_
2
4


 
 
 
 
r
e
f
i
n
e
 
l
v
_
g
o
t
o
 
(
t
g
t
 
:
=
 
1
5
)
 
h
x
 
h
b
 
d
L
_
t
o
l
d
_
9
 
(
b
y
 
d
e
c
i
d
e
)
 
?
_


 
 
 
 
r
e
f
i
n
e
 
l
v
_
i
c
o
n
s
t
 
(
v
 
:
=
 
0
)
 
h
x
 
h
b
 
d
L
_
t
o
l
d
_
1
5
 
(
b
y
 
d
e
c
i
d
e
)
 
?
_


 
 
 
 
r
e
f
i
n
e
 
v
x
_
r
e
t
 
?
_


 
 
 
 
h
a
v
e
 
h
p
o
s
t
 
:
 
(
(
0
,
 
(
v
p
_
u
p
d
L
 
g
g
 
(
0
 
:
 
I
n
t
3
2
)
.
t
o
N
a
t
C
l
a
m
p
N
e
g
 
(
t
_
2
5
.
2
.
t
o
I
n
t
6
4
)
)
)
 
:
 
I
n
t
3
2
 
×
 
(
N
a
t
 
→
 
I
n
t
6
4
)
)
 
=
 
F
_
L
_
t
o
l
d
_
e
 
g
i
v
e
n
 
p
e
r
m
 
X
t
a
p
e
 
X
c
o
l
 
X
a
n
s
 
g
g
 
v
i
 
:
=
 
(
s
h
o
w
 
F
_
L
_
t
o
l
d
_
e
 
g
i
v
e
n
 
p
e
r
m
 
X
t
a
p
e
 
X
c
o
l
 
X
a
n
s
 
g
g
 
v
i
 
=
 
(
(
0
,
 
(
v
p
_
u
p
d
L
 
g
g
 
(
0
 
:
 
I
n
t
3
2
)
.
t
o
N
a
t
C
l
a
m
p
N
e
g
 
(
t
_
2
5
.
2
.
t
o
I
n
t
6
4
)
)
)
 
:
 
I
n
t
3
2
 
×
 
(
N
a
t
 
→
 
I
n
t
6
4
)
)
 
f
r
o
m
 
(
g
L
e
t
_
e
q
 
h
t
_
2
5
 
(
(
i
f
_
p
o
s
 
c
_
3
1
)
.
t
r
a
n
s
 
r
f
l
)
)
)
.
s
y
m
m


 
 
 
 
h
a
v
e
 
h
P
9
 
:
=
 
h
P
_
3
3
.
s
u
b
 
(
w
s
'
 
:
=
 
[
(
h
,
 
.
i
n
r
 
(
1
1
,
 
[
.
r
e
f
 
h
l
k
,
 
.
r
e
f
 
h
v
,
 
.
r
e
f
 
h
t
,
 
.
r
e
f
 
h
c
o
l
,
 
.
r
e
f
 
h
a
n
s
,
 
.
i
n
t
 
c
f
o
r
,
 
.
i
n
t
 
c
b
a
c
k
,
 
.
i
n
t
 
f
i
l
t
]
)
)
,
 
(
h
l
k
,
 
.
i
n
r
 
(
3
,
 
[
.
r
e
f
 
h
v
,
 
.
r
e
f
 
h
t
,
 
.
r
e
f
 
h
p
a
d
,
 
.
r
e
f
 
h
c
h
k
]
)
)
,
 
(
h
v
,
 
.
i
n
r
 
(
1
0
,
 
[
.
i
n
t
 
(
n
I
 
r
v
)
,
 
.
r
e
f
 
h
u
s
e
r
,
 
.
r
e
f
 
h
o
w
n
e
r
,
 
.
r
e
f
 
h
t
r
i
e
d
,
 
.
r
e
f
 
h
i
d
e
n
t
,
 
.
r
e
f
 
h
t
a
p
e
,
 
.
i
n
t
 
g
i
v
e
n
,
 
.
r
e
f
 
h
s
e
c
r
e
t
,
 
.
r
e
f
 
q
e
n
t
,
 
.
r
e
f
 
h
n
o
e
,
 
.
i
n
t
 
p
e
r
m
,
 
.
i
n
t
 
p
l
a
i
n
]
)
)
,
 
(
h
t
a
p
e
,
 
.
i
n
r
 
(
6
,
 
[
.
r
e
f
 
a
t
a
p
e
,
 
.
i
n
t
 
X
t
a
p
e
.
1
]
)
)
,
 
(
h
c
o
l
,
 
.
i
n
r
 
(
6
,
 
[
.
r
e
f
 
a
c
o
l
,
 
.
i
n
t
 
X
c
o
l
.
1
]
)
)
,
 
(
h
a
n
s
,
 
.
i
n
r
 
(
6
,
 
[
.
r
e
f
 
a
a
n
s
,
 
.
i
n
t
 
X
a
n
s
.
1
]
)
)
,
 
(
a
o
u
t
,
 
.
i
n
l
 
(
c
L
,
 
1
,
 
.
i
n
r
 
(
.
i
n
l
 
(
v
p
_
u
p
d
L
 
g
g
 
(
0
 
:
 
I
n
t
3
2
)
.
t
o
N
a
t
C
l
a
m
p
N
e
g
 
(
t
_
2
5
.
2
.
t
o
I
n
t
6
4
)
)
)
)
)
]
)
 
[
1
,
 
2
,
 
3
,
 
4
,
 
5
,
 
6
,
 
0
]
 
r
f
l


 
 
 
 
h
a
v
e
 
h
D
9
 
:
=
 
h
D
_
3
3
.
s
u
b
 
(
w
s
'
 
:
=
 
[
(
h
,
 
.
i
n
r
 
(
1
1
,
 
[
.
r
e
f
 
h
l
k
,
 
.
r
e
f
 
h
v
,
 
.
r
e
f
 
h
t
,
 
.
r
e
f
 
h
c
o
l
,
 
.
r
e
f
 
h
a
n
s
,
 
.
i
n
t
 
c
f
o
r
,
 
.
i
n
t
 
c
b
a
c
k
,
 
.
i
n
t
 
f
i
l
t
]
)
)
,
 
(
h
l
k
,
 
.
i
n
r
 
(
3
,
 
[
.
r
e
f
 
h
v
,
 
.
r
e
f
 
h
t
,
 
.
r
e
f
 
h
p
a
d
,
 
.
r
e
f
 
h
c
h
k
]
)
)
,
 
(
h
v
,
 
.
i
n
r
 
(
1
0
,
 
[
.
i
n
t
 
(
n
I
 
r
v
)
,
 
.
r
e
f
 
h
u
s
e
r
,
 
.
r
e
f
 
h
o
w
n
e
r
,
 
.
r
e
f
 
h
t
r
i
e
d
,
 
.
r
e
f
 
h
i
d
e
n
t
,
 
.
r
e
f
 
h
t
a
p
e
,
 
.
i
n
t
 
g
i
v
e
n
,
 
.
r
e
f
 
h
s
e
c
r
e
t
,
 
.
r
e
f
 
q
e
n
t
,
 
.
r
e
f
 
h
n
o
e
,
 
.
i
n
t
 
p
e
r
m
,
 
.
i
n
t
 
p
l
a
i
n
]
)
)
,
 
(
h
t
a
p
e
,
 
.
i
n
r
 
(
6
,
 
[
.
r
e
f
 
a
t
a
p
e
,
 
.
i
n
t
 
X
t
a
p
e
.
1
]
)
)
,
 
(
h
c
o
l
,
 
.
i
n
r
 
(
6
,
 
[
.
r
e
f
 
a
c
o
l
,
 
.
i
n
t
 
X
c
o
l
.
1
]
)
)
,
 
(
h
a
n
s
,
 
.
i
n
r
 
(
6
,
 
[
.
r
e
f
 
a
a
n
s
,
 
.
i
n
t
 
X
a
n
s
.
1
]
)
)
,
 
(
a
o
u
t
,
 
.
i
n
l
 
(
c
L
,
 
1
,
 
.
i
n
r
 
(
.
i
n
l
 
(
v
p
_
u
p
d
L
 
g
g
 
(
0
 
:
 
I
n
t
3
2
)
.
t
o
N
a
t
C
l
a
m
p
N
e
g
 
(
t
_
2
5
.
2
.
t
o
I
n
t
6
4
)
)
)
)
)
]
)
 
[
1
,
 
2
,
 
3
,
 
4
,
 
5
,
 
6
,
 
0
]
 
(
b
y
 
d
e
c
i
d
e
)
 
r
f
l


 
 
 
 
e
x
a
c
t
 
W
.
i
r
e
t
 
(
v
 
:
=
 
0
)
 
h
x
 
h
b
 
h
r
 
(
f
u
n
 
t
 
h
t
 
h
W
 
=
>
 
⟨
⟨
0
,
 
(
v
p
_
u
p
d
L
 
g
g
 
(
0
 
:
 
I
n
t
3
2
)
.
t
o
N
a
t
C
l
a
m
p
N
e
g
 
(
t
_
2
5
.
2
.
t
o
I
n
t
6
4
)
)
,
 
r
f
l
,
 
⟨
c
o
n
g
r
A
r
g
 
P
r
o
d
.
f
s
t
 
h
p
o
s
t
,
 
c
o
n
g
r
A
r
g
 
P
r
o
d
.
s
n
d
 
h
p
o
s
t
⟩
,
 
b
y
 
r
w
 
[
h
t
]
;
 
e
x
a
c
t
 
h
P
9
,
 
h
D
9
⟩
,
 
h
S
_
3
3
.
F
 
h
t
⟩
)
 
h
S
_
3
3
.
2
.
2
 
d
L
_
t
o
l
d
_
1
6


